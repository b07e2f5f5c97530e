theorem dX7_plan_2 : decode cX7_plan 2 = .ok (.iconst 5, 1) := by decide +kernel
theorem dX7_plan_3 : decode cX7_plan 3 = .ok (.invokestatic 92, 3) := by decide +kernel
theorem dX7_plan_6 : decode cX7_plan 6 = .ok (.ifCond .ne 6, 3) := by decide +kernel
theorem dX7_plan_9 : decode cX7_plan 9 = .ok (.ldc 96, 2) := by decide +kernel
theorem dX7_plan_11 : decode cX7_plan 11 = .ok (.ireturn, 1) := by decide +kernel
theorem dX7_plan_12 : decode cX7_plan 12 = .ok (.aload_n 0, 1) := by decide +kernel
theorem dX7_plan_13 : decode cX7_plan 13 = .ok (.getfield 16, 3) := by decide +kernel
theorem dX7_plan_16 : decode cX7_plan 16 = .ok (.aload_n 0, 1) := by decide +kernel
theorem dX7_plan_17 : decode cX7_plan 17 = .ok (.getfield 10, 3) := by decide +kernel
theorem dX7_plan_20 : decode cX7_plan 20 = .ok (.invokevirtual 56, 3) := by decide +kernel
theorem dX7_plan_23 : decode cX7_plan 23 = .ok (.aload_n 0, 1) := by decide +kernel
theorem dX7_plan_24 : decode cX7_plan 24 = .ok (.getfield 43, 3) := by decide +kernel
theorem dX7_plan_27 : decode cX7_plan 27 = .ok (.aload_n 0, 1) := by decide +kernel
theorem dX7_plan_28 : decode cX7_plan 28 = .ok (.getfield 16, 3) := by decide +kernel
theorem dX7_plan_31 : decode cX7_plan 31 = .ok (.invokevirtual 140, 3) := by decide +kernel
theorem dX7_plan_34 : decode cX7_plan 34 = .ok (.iload_n 1, 1) := by decide +kernel
theorem dX7_plan_35 : decode cX7_plan 35 = .ok (.tableswitch 109 0 4 #[33, 49, 57, 93, 101], 33) := by decide +kernel
theorem dX7_plan_68 : decode cX7_plan 68 = .ok (.aload_n 0, 1) := by decide +kernel
theorem dX7_plan_69 : decode cX7_plan 69 = .ok (.getfield 16, 3) := by decide +kernel
theorem dX7_plan_72 : decode cX7_plan 72 = .ok (.invokevirtual 148, 3) := by decide +kernel
theorem dX7_plan_75 : decode cX7_plan 75 = .ok (.ifCond .ne 7, 3) := by decide +kernel
theorem dX7_plan_78 : decode cX7_plan 78 = .ok (.iconst 1, 1) := by decide +kernel
theorem dX7_plan_79 : decode cX7_plan 79 = .ok (.goto 4, 3) := by decide +kernel
theorem dX7_plan_82 : decode cX7_plan 82 = .ok (.iconst 0, 1) := by decide +kernel
theorem dX7_plan_83 : decode cX7_plan 83 = .ok (.ireturn, 1) := by decide +kernel
theorem dX7_plan_84 : decode cX7_plan 84 = .ok (.aload_n 0, 1) := by decide +kernel
theorem dX7_plan_85 : decode cX7_plan 85 = .ok (.getfield 43, 3) := by decide +kernel
theorem dX7_plan_88 : decode cX7_plan 88 = .ok (.getfield 143, 3) := by decide +kernel
theorem dX7_plan_91 : decode cX7_plan 91 = .ok (.ireturn, 1) := by decide +kernel
theorem dX7_plan_92 : decode cX7_plan 92 = .ok (.aload_n 0, 1) := by decide +kernel
theorem dX7_plan_93 : decode cX7_plan 93 = .ok (.getfield 43, 3) := by decide +kernel
theorem dX7_plan_96 : decode cX7_plan 96 = .ok (.getfield 143, 3) := by decide +kernel
theorem dX7_plan_99 : decode cX7_plan 99 = .ok (.ifCond .ne 8, 3) := by decide +kernel
theorem dX7_plan_102 : decode cX7_plan 102 = .ok (.ldc 117, 2) := by decide +kernel
theorem dX7_plan_104 : decode cX7_plan 104 = .ok (.goto 23, 3) := by decide +kernel
theorem dX7_plan_107 : decode cX7_plan 107 = .ok (.aload_n 0, 1) := by decide +kernel
theorem dX7_plan_108 : decode cX7_plan 108 = .ok (.getfield 43, 3) := by decide +kernel
theorem dX7_plan_111 : decode cX7_plan 111 = .ok (.getfield 147, 3) := by decide +kernel
theorem dX7_plan_114 : decode cX7_plan 114 = .ok (.aload_n 0, 1) := by decide +kernel
theorem dX7_plan_115 : decode cX7_plan 115 = .ok (.getfield 43, 3) := by decide +kernel
theorem dX7_plan_118 : decode cX7_plan 118 = .ok (.getfield 143, 3) := by decide +kernel
theorem dX7_plan_121 : decode cX7_plan 121 = .ok (.iconst 1, 1) := by decide +kernel
theorem dX7_plan_122 : decode cX7_plan 122 = .ok (.isub, 1) := by decide +kernel
theorem dX7_plan_123 : decode cX7_plan 123 = .ok (.iconst 1, 1) := by decide +kernel
theorem dX7_plan_124 : decode cX7_plan 124 = .ok (.invokevirtual 114, 3) := by decide +kernel
theorem dX7_plan_127 : decode cX7_plan 127 = .ok (.ireturn, 1) := by decide +kernel
theorem dX7_plan_128 : decode cX7_plan 128 = .ok (.aload_n 0, 1) := by decide +kernel
theorem dX7_plan_129 : decode cX7_plan 129 = .ok (.getfield 43, 3) := by decide +kernel
theorem dX7_plan_132 : decode cX7_plan 132 = .ok (.getfield 151, 3) := by decide +kernel
theorem dX7_plan_135 : decode cX7_plan 135 = .ok (.ireturn, 1) := by decide +kernel
theorem dX7_plan_136 : decode cX7_plan 136 = .ok (.aload_n 0, 1) := by decide +kernel
theorem dX7_plan_137 : decode cX7_plan 137 = .ok (.getfield 43, 3) := by decide +kernel
theorem dX7_plan_140 : decode cX7_plan 140 = .ok (.getfield 154, 3) := by decide +kernel
theorem dX7_plan_143 : decode cX7_plan 143 = .ok (.ireturn, 1) := by decide +kernel
theorem dX7_plan_144 : decode cX7_plan 144 = .ok (.aload_n 0, 1) := by decide +kernel
theorem dX7_plan_145 : decode cX7_plan 145 = .ok (.getfield 16, 3) := by decide +kernel
theorem dX7_plan_148 : decode cX7_plan 148 = .ok (.invokevirtual 148, 3) := by decide +kernel
theorem dX7_plan_151 : decode cX7_plan 151 = .ok (.ireturn, 1) := by decide +kernel
set_option maxRecDepth 20000 in
theorem ggX7_worst_X7_within : GoodIn wsX7_worst wsX7_within := goodIn_r _ [7] (by decide +kernel) (by decide +kernel)
set_option maxRecDepth 20000 in
theorem gX7_worst_X7_within : GoodIn wsX7_worst (va_wsS RX7 92 yX7_within wsX7_within) := goodIn_app (goodIn_of _ (by decide +kernel)) ggX7_worst_X7_within
set_option maxRecDepth 20000 in
theorem ggX7_worst_X7_countReasons : GoodIn wsX7_worst wsX7_countReasons := goodIn_r _ [11, 2, 12, 13, 14, 15, 16, 17, 18, 19, 20, 21, 22, 23, 24, 25, 26, 27, 28, 29, 30, 31, 32, 33, 34, 35, 36, 37, 38, 39, 40, 41, 42, 43, 44, 45, 46, 47, 48, 49, 50, 51, 52, 53, 54, 55, 56, 57, 58, 59, 60, 61, 62, 63, 64, 65, 66, 67, 68, 69, 70, 71, 72, 73, 74, 75, 76, 77, 78, 79, 80, 81, 82, 83, 84, 85] (by decide +kernel) (by decide +kernel)
set_option maxRecDepth 20000 in
theorem gX7_worst_X7_countReasons : GoodIn wsX7_worst (wsV RX7 157 RX7 yX7_countReasons wsX7_countReasons) := goodIn_app (goodIn_of _ (by decide +kernel)) ggX7_worst_X7_countReasons
set_option maxRecDepth 20000 in
theorem ggX7_worst_X5_get : GoodIn wsX7_worst wsX5_get := goodIn_r _ [33, 34, 18, 84, 85] (by decide +kernel) (by decide +kernel)
set_option maxRecDepth 20000 in
theorem gX7_worst_X5_get : GoodIn wsX7_worst (wsV RX7 114 RX5 yX5_get wsX5_get) := goodIn_app (goodIn_of _ (by decide +kernel)) ggX7_worst_X5_get
theorem dX7_worst_0 : decode cX7_worst 0 = .ok (.iload_n 1, 1) := by decide +kernel
theorem dX7_worst_1 : decode cX7_worst 1 = .ok (.iconst 0, 1) := by decide +kernel
theorem dX7_worst_2 : decode cX7_worst 2 = .ok (.iconst 1, 1) := by decide +kernel
theorem dX7_worst_3 : decode cX7_worst 3 = .ok (.invokestatic 92, 3) := by decide +kernel
theorem dX7_worst_6 : decode cX7_worst 6 = .ok (.ifCond .ne 6, 3) := by decide +kernel
theorem dX7_worst_9 : decode cX7_worst 9 = .ok (.ldc 96, 2) := by decide +kernel
theorem dX7_worst_11 : decode cX7_worst 11 = .ok (.ireturn, 1) := by decide +kernel
theorem dX7_worst_12 : decode cX7_worst 12 = .ok (.aload_n 0, 1) := by decide +kernel
theorem dX7_worst_13 : decode cX7_worst 13 = .ok (.invokevirtual 157, 3) := by decide +kernel
theorem dX7_worst_16 : decode cX7_worst 16 = .ok (.iconst 3, 1) := by decide +kernel
theorem dX7_worst_17 : decode cX7_worst 17 = .ok (.istore_n 2, 1) := by decide +kernel
theorem dX7_worst_18 : decode cX7_worst 18 = .ok (.iconst 3, 1) := by decide +kernel
theorem dX7_worst_19 : decode cX7_worst 19 = .ok (.istore_n 3, 1) := by decide +kernel
theorem dX7_worst_20 : decode cX7_worst 20 = .ok (.iload_n 3, 1) := by decide +kernel
theorem dX7_worst_21 : decode cX7_worst 21 = .ok (.bipush 8, 2) := by decide +kernel
theorem dX7_worst_23 : decode cX7_worst 23 = .ok (.if_icmp .gt 32, 3) := by decide +kernel
theorem dX7_worst_26 : decode cX7_worst 26 = .ok (.aload_n 0, 1) := by decide +kernel
theorem dX7_worst_27 : decode cX7_worst 27 = .ok (.getfield 52, 3) := by decide +kernel
theorem dX7_worst_30 : decode cX7_worst 30 = .ok (.iconst 0, 1) := by decide +kernel
theorem dX7_worst_31 : decode cX7_worst 31 = .ok (.iload_n 3, 1) := by decide +kernel
theorem dX7_worst_32 : decode cX7_worst 32 = .ok (.invokevirtual 114, 3) := by decide +kernel
theorem dX7_worst_35 : decode cX7_worst 35 = .ok (.aload_n 0, 1) := by decide +kernel
theorem dX7_worst_36 : decode cX7_worst 36 = .ok (.getfield 52, 3) := by decide +kernel
theorem dX7_worst_39 : decode cX7_worst 39 = .ok (.iconst 0, 1) := by decide +kernel
theorem dX7_worst_40 : decode cX7_worst 40 = .ok (.iload_n 2, 1) := by decide +kernel
theorem dX7_worst_41 : decode cX7_worst 41 = .ok (.invokevirtual 114, 3) := by decide +kernel
theorem dX7_worst_44 : decode cX7_worst 44 = .ok (.if_icmp .le 5, 3) := by decide +kernel
theorem dX7_worst_47 : decode cX7_worst 47 = .ok (.iload_n 3, 1) := by decide +kernel
theorem dX7_worst_48 : decode cX7_worst 48 = .ok (.istore_n 2, 1) := by decide +kernel
theorem dX7_worst_49 : decode cX7_worst 49 = .ok (.iinc 3 1, 3) := by decide +kernel
theorem dX7_worst_52 : decode cX7_worst 52 = .ok (.goto (-32), 3) := by decide +kernel
theorem dX7_worst_55 : decode cX7_worst 55 = .ok (.aload_n 0, 1) := by decide +kernel
theorem dX7_worst_56 : decode cX7_worst 56 = .ok (.getfield 52, 3) := by decide +kernel
theorem dX7_worst_59 : decode cX7_worst 59 = .ok (.iconst 0, 1) := by decide +kernel
theorem dX7_worst_60 : decode cX7_worst 60 = .ok (.iload_n 2, 1) := by decide +kernel
theorem dX7_worst_61 : decode cX7_worst 61 = .ok (.invokevirtual 114, 3) := by decide +kernel
theorem dX7_worst_64 : decode cX7_worst 64 = .ok (.istore_n 3, 1) := by decide +kernel
theorem dX7_worst_65 : decode cX7_worst 65 = .ok (.iload_n 3, 1) := by decide +kernel
theorem dX7_worst_66 : decode cX7_worst 66 = .ok (.ifCond .ne 6, 3) := by decide +kernel
theorem dX7_worst_69 : decode cX7_worst 69 = .ok (.ldc 117, 2) := by decide +kernel
theorem dX7_worst_71 : decode cX7_worst 71 = .ok (.ireturn, 1) := by decide +kernel
theorem dX7_worst_72 : decode cX7_worst 72 = .ok (.iload_n 1, 1) := by decide +kernel
theorem dX7_worst_73 : decode cX7_worst 73 = .ok (.ifCond .ne 7, 3) := by decide +kernel
theorem dX7_worst_76 : decode cX7_worst 76 = .ok (.iload_n 2, 1) := by decide +kernel
theorem dX7_worst_77 : decode cX7_worst 77 = .ok (.goto 4, 3) := by decide +kernel
theorem dX7_worst_80 : decode cX7_worst 80 = .ok (.iload_n 3, 1) := by decide +kernel
theorem dX7_worst_81 : decode cX7_worst 81 = .ok (.ireturn, 1) := by decide +kernel
set_option maxRecDepth 20000 in
theorem ggX7_count_X5_get : GoodIn wsX7_count wsX5_get := goodIn_r _ [9, 10, 11, 35, 36] (by decide +kernel) (by decide +kernel)
set_option maxRecDepth 20000 in
theorem gX7_count_X5_get : GoodIn wsX7_count (wsV RX7 114 RX5 yX5_get wsX5_get) := goodIn_app (goodIn_of _ (by decide +kernel)) ggX7_count_X5_get
theorem dX7_count_0 : decode cX7_count 0 = .ok (.iload_n 1, 1) := by decide +kernel
theorem dX7_count_1 : decode cX7_count 1 = .ok (.tableswitch 203 0 22 #[107, 115, 123, 131, 139, 147, 155, 163, 171, 179, 203, 203, 203, 203, 203, 203, 203, 203, 203, 203, 187, 187, 187], 107) := by decide +kernel
theorem dX7_count_108 : decode cX7_count 108 = .ok (.aload_n 0, 1) := by decide +kernel
theorem dX7_count_109 : decode cX7_count 109 = .ok (.getfield 10, 3) := by decide +kernel
theorem dX7_count_112 : decode cX7_count 112 = .ok (.getfield 160, 3) := by decide +kernel
theorem dX7_count_115 : decode cX7_count 115 = .ok (.ireturn, 1) := by decide +kernel
theorem dX7_count_116 : decode cX7_count 116 = .ok (.aload_n 0, 1) := by decide +kernel
theorem dX7_count_117 : decode cX7_count 117 = .ok (.getfield 10, 3) := by decide +kernel
theorem dX7_count_120 : decode cX7_count 120 = .ok (.getfield 163, 3) := by decide +kernel
theorem dX7_count_123 : decode cX7_count 123 = .ok (.ireturn, 1) := by decide +kernel
theorem dX7_count_124 : decode cX7_count 124 = .ok (.aload_n 0, 1) := by decide +kernel
theorem dX7_count_125 : decode cX7_count 125 = .ok (.getfield 10, 3) := by decide +kernel
theorem dX7_count_128 : decode cX7_count 128 = .ok (.getfield 166, 3) := by decide +kernel
theorem dX7_count_131 : decode cX7_count 131 = .ok (.ireturn, 1) := by decide +kernel
theorem dX7_count_132 : decode cX7_count 132 = .ok (.aload_n 0, 1) := by decide +kernel
theorem dX7_count_133 : decode cX7_count 133 = .ok (.getfield 10, 3) := by decide +kernel
theorem dX7_count_136 : decode cX7_count 136 = .ok (.getfield 169, 3) := by decide +kernel
theorem dX7_count_139 : decode cX7_count 139 = .ok (.ireturn, 1) := by decide +kernel
theorem dX7_count_140 : decode cX7_count 140 = .ok (.aload_n 0, 1) := by decide +kernel
theorem dX7_count_141 : decode cX7_count 141 = .ok (.getfield 10, 3) := by decide +kernel
theorem dX7_count_144 : decode cX7_count 144 = .ok (.getfield 172, 3) := by decide +kernel
theorem dX7_count_147 : decode cX7_count 147 = .ok (.ireturn, 1) := by decide +kernel
theorem dX7_count_148 : decode cX7_count 148 = .ok (.aload_n 0, 1) := by decide +kernel
theorem dX7_count_149 : decode cX7_count 149 = .ok (.getfield 10, 3) := by decide +kernel
theorem dX7_count_152 : decode cX7_count 152 = .ok (.getfield 175, 3) := by decide +kernel
theorem dX7_count_155 : decode cX7_count 155 = .ok (.ireturn, 1) := by decide +kernel
theorem dX7_count_156 : decode cX7_count 156 = .ok (.aload_n 0, 1) := by decide +kernel
theorem dX7_count_157 : decode cX7_count 157 = .ok (.getfield 10, 3) := by decide +kernel
theorem dX7_count_160 : decode cX7_count 160 = .ok (.getfield 178, 3) := by decide +kernel
theorem dX7_count_163 : decode cX7_count 163 = .ok (.ireturn, 1) := by decide +kernel
theorem dX7_count_164 : decode cX7_count 164 = .ok (.aload_n 0, 1) := by decide +kernel
theorem dX7_count_165 : decode cX7_count 165 = .ok (.getfield 10, 3) := by decide +kernel
theorem dX7_count_168 : decode cX7_count 168 = .ok (.getfield 181, 3) := by decide +kernel
theorem dX7_count_171 : decode cX7_count 171 = .ok (.ireturn, 1) := by decide +kernel
theorem dX7_count_172 : decode cX7_count 172 = .ok (.aload_n 0, 1) := by decide +kernel
theorem dX7_count_173 : decode cX7_count 173 = .ok (.getfield 22, 3) := by decide +kernel
theorem dX7_count_176 : decode cX7_count 176 = .ok (.getfield 184, 3) := by decide +kernel
theorem dX7_count_179 : decode cX7_count 179 = .ok (.ireturn, 1) := by decide +kernel
theorem dX7_count_180 : decode cX7_count 180 = .ok (.aload_n 0, 1) := by decide +kernel
theorem dX7_count_181 : decode cX7_count 181 = .ok (.getfield 29, 3) := by decide +kernel
theorem dX7_count_184 : decode cX7_count 184 = .ok (.getfield 185, 3) := by decide +kernel
theorem dX7_count_187 : decode cX7_count 187 = .ok (.ireturn, 1) := by decide +kernel
theorem dX7_count_188 : decode cX7_count 188 = .ok (.aload_n 0, 1) := by decide +kernel
theorem dX7_count_189 : decode cX7_count 189 = .ok (.getfield 10, 3) := by decide +kernel
theorem dX7_count_192 : decode cX7_count 192 = .ok (.getfield 186, 3) := by decide +kernel
theorem dX7_count_195 : decode cX7_count 195 = .ok (.iconst 0, 1) := by decide +kernel
theorem dX7_count_196 : decode cX7_count 196 = .ok (.iload_n 1, 1) := by decide +kernel
theorem dX7_count_197 : decode cX7_count 197 = .ok (.bipush 20, 2) := by decide +kernel
theorem dX7_count_199 : decode cX7_count 199 = .ok (.isub, 1) := by decide +kernel
theorem dX7_count_200 : decode cX7_count 200 = .ok (.invokevirtual 114, 3) := by decide +kernel
theorem dX7_count_203 : decode cX7_count 203 = .ok (.ireturn, 1) := by decide +kernel
theorem dX7_count_204 : decode cX7_count 204 = .ok (.ldc 96, 2) := by decide +kernel
theorem dX7_count_206 : decode cX7_count 206 = .ok (.ireturn, 1) := by decide +kernel
set_option maxRecDepth 20000 in
theorem ggX7_undo_X1_restoreTo : GoodIn wsX7_undo wsX1_restoreTo := goodIn_r _ [8, 9, 10, 11, 12, 13, 14, 15, 16, 17, 18, 19, 20, 21, 22, 23, 24, 25, 26, 27, 28, 29, 30, 31, 32, 33, 34, 35, 36, 37, 38, 39, 40, 41, 49, 50, 51, 52, 53, 54, 55, 56, 57, 58, 59, 60, 61, 62, 63, 64] (by decide +kernel) (by decide +kernel)
set_option maxRecDepth 20000 in
theorem gX7_undo_X1_restoreTo : GoodIn wsX7_undo (wsV RX7 190 RX1 yX1_restoreTo wsX1_restoreTo) := goodIn_app (goodIn_of _ (by decide +kernel)) ggX7_undo_X1_restoreTo
theorem dX7_undo_0 : decode cX7_undo 0 = .ok (.aload_n 0, 1) := by decide +kernel
theorem dX7_undo_1 : decode cX7_undo 1 = .ok (.getfield 22, 3) := by decide +kernel
theorem dX7_undo_4 : decode cX7_undo 4 = .ok (.getfield 184, 3) := by decide +kernel
theorem dX7_undo_7 : decode cX7_undo 7 = .ok (.ifCond .ne 6, 3) := by decide +kernel
theorem dX7_undo_10 : decode cX7_undo 10 = .ok (.ldc 189, 2) := by decide +kernel
theorem dX7_undo_12 : decode cX7_undo 12 = .ok (.ireturn, 1) := by decide +kernel
theorem dX7_undo_13 : decode cX7_undo 13 = .ok (.aload_n 0, 1) := by decide +kernel
theorem dX7_undo_14 : decode cX7_undo 14 = .ok (.getfield 22, 3) := by decide +kernel
theorem dX7_undo_17 : decode cX7_undo 17 = .ok (.aload_n 0, 1) := by decide +kernel
theorem dX7_undo_18 : decode cX7_undo 18 = .ok (.getfield 10, 3) := by decide +kernel
theorem dX7_undo_21 : decode cX7_undo 21 = .ok (.invokevirtual 190, 3) := by decide +kernel
theorem dX7_undo_24 : decode cX7_undo 24 = .ok (.aload_n 0, 1) := by decide +kernel
theorem dX7_undo_25 : decode cX7_undo 25 = .ok (.getfield 22, 3) := by decide +kernel
theorem dX7_undo_28 : decode cX7_undo 28 = .ok (.getfield 184, 3) := by decide +kernel
theorem dX7_undo_31 : decode cX7_undo 31 = .ok (.ireturn, 1) := by decide +kernel
set_option maxRecDepth 20000 in
theorem ggX7_type_X7_within : GoodIn wsX7_type wsX7_within := goodIn_r _ [7] (by decide +kernel) (by decide +kernel)
set_option maxRecDepth 20000 in
theorem gX7_type_X7_within : GoodIn wsX7_type (va_wsS RX7 92 yX7_within wsX7_within) := goodIn_app (goodIn_of _ (by decide +kernel)) ggX7_type_X7_within
set_option maxRecDepth 20000 in
theorem ggX7_type_X6_append : GoodIn wsX7_type wsX6_append := goodIn_r _ [12, 13, 14, 22, 23] (by decide +kernel) (by decide +kernel)
set_option maxRecDepth 20000 in
theorem gX7_type_X6_append : GoodIn wsX7_type (wsV RX7 194 RX6 yX6_append wsX6_append) := goodIn_app (goodIn_of _ (by decide +kernel)) ggX7_type_X6_append
theorem dX7_type_0 : decode cX7_type 0 = .ok (.iload_n 1, 1) := by decide +kernel
theorem dX7_type_1 : decode cX7_type 1 = .ok (.bipush 32, 2) := by decide +kernel
theorem dX7_type_3 : decode cX7_type 3 = .ok (.bipush 126, 2) := by decide +kernel
theorem dX7_type_5 : decode cX7_type 5 = .ok (.invokestatic 92, 3) := by decide +kernel
theorem dX7_type_8 : decode cX7_type 8 = .ok (.ifCond .ne 6, 3) := by decide +kernel
theorem dX7_type_11 : decode cX7_type 11 = .ok (.ldc 96, 2) := by decide +kernel
theorem dX7_type_13 : decode cX7_type 13 = .ok (.ireturn, 1) := by decide +kernel
theorem dX7_type_14 : decode cX7_type 14 = .ok (.aload_n 0, 1) := by decide +kernel
theorem dX7_type_15 : decode cX7_type 15 = .ok (.getfield 29, 3) := by decide +kernel
theorem dX7_type_18 : decode cX7_type 18 = .ok (.getfield 185, 3) := by decide +kernel
theorem dX7_type_21 : decode cX7_type 21 = .ok (.bipush 60, 2) := by decide +kernel
theorem dX7_type_23 : decode cX7_type 23 = .ok (.if_icmp .lt 6, 3) := by decide +kernel
theorem dX7_type_26 : decode cX7_type 26 = .ok (.ldc 193, 2) := by decide +kernel
theorem dX7_type_28 : decode cX7_type 28 = .ok (.ireturn, 1) := by decide +kernel
theorem dX7_type_29 : decode cX7_type 29 = .ok (.aload_n 0, 1) := by decide +kernel
theorem dX7_type_30 : decode cX7_type 30 = .ok (.getfield 29, 3) := by decide +kernel
theorem dX7_type_33 : decode cX7_type 33 = .ok (.iload_n 1, 1) := by decide +kernel
theorem dX7_type_34 : decode cX7_type 34 = .ok (.invokevirtual 194, 3) := by decide +kernel
theorem dX7_type_37 : decode cX7_type 37 = .ok (.aload_n 0, 1) := by decide +kernel
theorem dX7_type_38 : decode cX7_type 38 = .ok (.getfield 29, 3) := by decide +kernel
theorem dX7_type_41 : decode cX7_type 41 = .ok (.getfield 185, 3) := by decide +kernel
theorem dX7_type_44 : decode cX7_type 44 = .ok (.ireturn, 1) := by decide +kernel
theorem dX7_clearText_0 : decode cX7_clearText 0 = .ok (.aload_n 0, 1) := by decide +kernel
theorem dX7_clearText_1 : decode cX7_clearText 1 = .ok (.getfield 29, 3) := by decide +kernel
theorem dX7_clearText_4 : decode cX7_clearText 4 = .ok (.getfield 185, 3) := by decide +kernel
theorem dX7_clearText_7 : decode cX7_clearText 7 = .ok (.istore_n 1, 1) := by decide +kernel
theorem dX7_clearText_8 : decode cX7_clearText 8 = .ok (.aload_n 0, 1) := by decide +kernel
theorem dX7_clearText_9 : decode cX7_clearText 9 = .ok (.getfield 29, 3) := by decide +kernel
theorem dX7_clearText_12 : decode cX7_clearText 12 = .ok (.iconst 0, 1) := by decide +kernel
theorem dX7_clearText_13 : decode cX7_clearText 13 = .ok (.putfield 185, 3) := by decide +kernel
theorem dX7_clearText_16 : decode cX7_clearText 16 = .ok (.iload_n 1, 1) := by decide +kernel
theorem dX7_clearText_17 : decode cX7_clearText 17 = .ok (.ireturn, 1) := by decide +kernel
set_option maxRecDepth 20000 in
theorem ggX7_fault_X7_within : GoodIn wsX7_fault wsX7_within := goodIn_r _ [10] (by decide +kernel) (by decide +kernel)
set_option maxRecDepth 20000 in
theorem gX7_fault_X7_within : GoodIn wsX7_fault (va_wsS RX7 92 yX7_within wsX7_within) := goodIn_app (goodIn_of _ (by decide +kernel)) ggX7_fault_X7_within
set_option maxRecDepth 20000 in
theorem ggX7_fault_X0_copyFrom : GoodIn wsX7_fault wsX0_copyFrom := goodIn_r _ [15, 16, 17, 18, 19, 20, 21, 22, 23, 24, 25, 26, 27, 28, 29, 30, 31, 32, 33, 34, 35, 36, 37, 38, 39, 40, 41, 180, 181, 182, 183, 184, 185, 186, 187, 188, 189, 190, 191, 192, 193] (by decide +kernel) (by decide +kernel)
set_option maxRecDepth 20000 in
theorem gX7_fault_X0_copyFrom : GoodIn wsX7_fault (wsV RX7 56 RX0 yX0_copyFrom wsX0_copyFrom) := goodIn_app (goodIn_of _ (by decide +kernel)) ggX7_fault_X0_copyFrom
set_option maxRecDepth 20000 in
theorem ggX7_fault_X4_playOn : GoodIn wsX7_fault wsX4_playOn := goodIn_r _ [46, 47, 48, 49, 50, 51, 52, 53, 54, 55, 56, 57, 58, 59, 60, 61, 62, 63, 64, 65, 66, 67, 68, 69, 70, 71, 72, 73, 74, 75, 76, 77, 78, 79, 31, 80, 81, 33, 82, 83, 84, 85, 86, 87, 88, 89, 90, 91, 92, 93, 94, 95, 96, 14, 97, 98, 20, 99, 16, 100, 101, 102, 8, 9, 10, 103, 104, 105, 106, 107, 108, 109, 110, 111, 112, 113, 114, 115, 17, 116, 117, 118, 119, 120, 121, 122, 123, 124, 125, 126, 127, 128, 129, 130, 131, 132, 133, 134, 135, 136, 22, 137, 138, 139, 140, 21, 141, 142, 143, 144, 145, 146, 147, 148, 23, 24, 19, 149, 150, 151, 152, 153, 154, 155, 25, 27, 26, 156, 157, 158, 159, 18, 160, 161, 162, 163, 164, 165, 166, 167, 175, 176, 177, 178, 179, 194, 195, 196, 197, 198, 192, 193, 180, 181, 182, 183, 184, 185, 186, 187, 188, 189, 190, 191] (by decide +kernel) (by decide +kernel)
set_option maxRecDepth 20000 in
theorem gX7_fault_X4_playOn : GoodIn wsX7_fault (wsV RX7 198 RX4 yX4_playOn wsX4_playOn) := goodIn_app (goodIn_of _ (by decide +kernel)) ggX7_fault_X4_playOn
theorem dX7_fault_0 : decode cX7_fault 0 = .ok (.iload_n 1, 1) := by decide +kernel
theorem dX7_fault_1 : decode cX7_fault 1 = .ok (.iconst 0, 1) := by decide +kernel
theorem dX7_fault_2 : decode cX7_fault 2 = .ok (.iconst 2, 1) := by decide +kernel
theorem dX7_fault_3 : decode cX7_fault 3 = .ok (.invokestatic 92, 3) := by decide +kernel
theorem dX7_fault_6 : decode cX7_fault 6 = .ok (.ifCond .ne 6, 3) := by decide +kernel
theorem dX7_fault_9 : decode cX7_fault 9 = .ok (.ldc 96, 2) := by decide +kernel
theorem dX7_fault_11 : decode cX7_fault 11 = .ok (.ireturn, 1) := by decide +kernel
theorem dX7_fault_12 : decode cX7_fault 12 = .ok (.aload_n 0, 1) := by decide +kernel
theorem dX7_fault_13 : decode cX7_fault 13 = .ok (.getfield 16, 3) := by decide +kernel
theorem dX7_fault_16 : decode cX7_fault 16 = .ok (.aload_n 0, 1) := by decide +kernel
theorem dX7_fault_17 : decode cX7_fault 17 = .ok (.getfield 10, 3) := by decide +kernel
theorem dX7_fault_20 : decode cX7_fault 20 = .ok (.invokevirtual 56, 3) := by decide +kernel
theorem dX7_fault_23 : decode cX7_fault 23 = .ok (.aload_n 0, 1) := by decide +kernel
theorem dX7_fault_24 : decode cX7_fault 24 = .ok (.getfield 36, 3) := by decide +kernel
theorem dX7_fault_27 : decode cX7_fault 27 = .ok (.aload_n 0, 1) := by decide +kernel
theorem dX7_fault_28 : decode cX7_fault 28 = .ok (.getfield 29, 3) := by decide +kernel
theorem dX7_fault_31 : decode cX7_fault 31 = .ok (.aload_n 0, 1) := by decide +kernel
theorem dX7_fault_32 : decode cX7_fault 32 = .ok (.getfield 16, 3) := by decide +kernel
theorem dX7_fault_35 : decode cX7_fault 35 = .ok (.invokevirtual 198, 3) := by decide +kernel
theorem dX7_fault_38 : decode cX7_fault 38 = .ok (.aload_n 0, 1) := by decide +kernel
theorem dX7_fault_39 : decode cX7_fault 39 = .ok (.getfield 36, 3) := by decide +kernel
theorem dX7_fault_42 : decode cX7_fault 42 = .ok (.getfield 202, 3) := by decide +kernel
theorem dX7_fault_45 : decode cX7_fault 45 = .ok (.ifCond .ne 6, 3) := by decide +kernel
theorem dX7_fault_48 : decode cX7_fault 48 = .ok (.ldc 117, 2) := by decide +kernel
theorem dX7_fault_50 : decode cX7_fault 50 = .ok (.ireturn, 1) := by decide +kernel
theorem dX7_fault_51 : decode cX7_fault 51 = .ok (.iload_n 1, 1) := by decide +kernel
theorem dX7_fault_52 : decode cX7_fault 52 = .ok (.lookupswitch 44 #[(0, 28), (1, 36)], 28) := by decide +kernel
theorem dX7_fault_80 : decode cX7_fault 80 = .ok (.aload_n 0, 1) := by decide +kernel
theorem dX7_fault_81 : decode cX7_fault 81 = .ok (.getfield 36, 3) := by decide +kernel
theorem dX7_fault_84 : decode cX7_fault 84 = .ok (.getfield 205, 3) := by decide +kernel
theorem dX7_fault_87 : decode cX7_fault 87 = .ok (.ireturn, 1) := by decide +kernel
theorem dX7_fault_88 : decode cX7_fault 88 = .ok (.aload_n 0, 1) := by decide +kernel
theorem dX7_fault_89 : decode cX7_fault 89 = .ok (.getfield 36, 3) := by decide +kernel
theorem dX7_fault_92 : decode cX7_fault 92 = .ok (.getfield 202, 3) := by decide +kernel
theorem dX7_fault_95 : decode cX7_fault 95 = .ok (.ireturn, 1) := by decide +kernel
theorem dX7_fault_96 : decode cX7_fault 96 = .ok (.aload_n 0, 1) := by decide +kernel
theorem dX7_fault_97 : decode cX7_fault 97 = .ok (.getfield 36, 3) := by decide +kernel
theorem dX7_fault_100 : decode cX7_fault 100 = .ok (.getfield 208, 3) := by decide +kernel
theorem dX7_fault_103 : decode cX7_fault 103 = .ok (.ireturn, 1) := by decide +kernel
set_option maxRecDepth 20000 in
theorem ggX7_play_X0_copyFrom : GoodIn wsX7_play wsX0_copyFrom := goodIn_r _ [10, 11, 12, 13, 14, 15, 16, 17, 18, 19, 20, 21, 22, 23, 24, 25, 26, 27, 28, 29, 30, 31, 32, 33, 34, 35, 36, 195, 196, 197, 198, 199, 200, 201, 202, 203, 204, 205, 206, 207, 208] (by decide +kernel) (by decide +kernel)
set_option maxRecDepth 20000 in
theorem gX7_play_X0_copyFrom : GoodIn wsX7_play (wsV RX7 56 RX0 yX0_copyFrom wsX0_copyFrom) := goodIn_app (goodIn_of _ (by decide +kernel)) ggX7_play_X0_copyFrom
set_option maxRecDepth 20000 in
theorem ggX7_play_X4_playOn : GoodIn wsX7_play wsX4_playOn := goodIn_r _ [41, 42, 43, 44, 45, 46, 47, 48, 49, 50, 51, 52, 53, 54, 55, 56, 57, 58, 59, 60, 61, 62, 63, 64, 65, 66, 67, 68, 69, 70, 71, 72, 73, 74, 26, 75, 76, 28, 77, 78, 79, 80, 81, 82, 83, 84, 85, 86, 87, 88, 89, 90, 91, 9, 92, 93, 15, 94, 11, 95, 96, 97, 98, 99, 100, 101, 102, 103, 104, 105, 106, 107, 108, 109, 110, 111, 112, 113, 12, 114, 115, 116, 117, 118, 119, 120, 121, 122, 123, 124, 125, 126, 127, 128, 129, 130, 131, 132, 133, 134, 17, 135, 136, 137, 138, 16, 139, 140, 141, 142, 143, 144, 145, 146, 18, 19, 14, 147, 148, 149, 150, 151, 152, 153, 20, 22, 21, 154, 155, 156, 157, 13, 158, 159, 160, 161, 162, 163, 164, 165, 190, 191, 192, 193, 194, 209, 210, 211, 212, 213, 207, 208, 195, 196, 197, 198, 199, 200, 201, 202, 203, 204, 205, 206] (by decide +kernel) (by decide +kernel)
set_option maxRecDepth 20000 in
theorem gX7_play_X4_playOn : GoodIn wsX7_play (wsV RX7 198 RX4 yX4_playOn wsX4_playOn) := goodIn_app (goodIn_of _ (by decide +kernel)) ggX7_play_X4_playOn
set_option maxRecDepth 20000 in
theorem ggX7_play_X7_settle : GoodIn wsX7_play wsX7_settle := goodIn_r _ [169, 170, 2, 1, 171, 172, 173, 174, 175, 176, 177, 178, 179, 180, 181, 182, 7, 8, 9, 10, 11, 12, 13, 14, 15, 16, 17, 18, 19, 20, 21, 22, 23, 24, 25, 26, 27, 28, 29, 30, 31, 32, 33, 34, 35, 36, 6, 183, 184, 185, 186, 187, 188, 189, 214, 215, 195, 196, 197, 198, 199, 200, 201, 202, 203, 204, 205, 206, 207, 208] (by decide +kernel) (by decide +kernel)
set_option maxRecDepth 20000 in
theorem gX7_play_X7_settle : GoodIn wsX7_play (wsV RX7 64 RX7 yX7_settle wsX7_settle) := goodIn_app (goodIn_of _ (by decide +kernel)) ggX7_play_X7_settle
theorem dX7_play_0 : decode cX7_play 0 = .ok (.aload_n 0, 1) := by decide +kernel
theorem dX7_play_1 : decode cX7_play 1 = .ok (.getfield 16, 3) := by decide +kernel
theorem dX7_play_4 : decode cX7_play 4 = .ok (.aload_n 0, 1) := by decide +kernel
theorem dX7_play_5 : decode cX7_play 5 = .ok (.getfield 10, 3) := by decide +kernel
theorem dX7_play_8 : decode cX7_play 8 = .ok (.invokevirtual 56, 3) := by decide +kernel
theorem dX7_play_11 : decode cX7_play 11 = .ok (.aload_n 0, 1) := by decide +kernel
theorem dX7_play_12 : decode cX7_play 12 = .ok (.getfield 36, 3) := by decide +kernel
theorem dX7_play_15 : decode cX7_play 15 = .ok (.aload_n 0, 1) := by decide +kernel
theorem dX7_play_16 : decode cX7_play 16 = .ok (.getfield 29, 3) := by decide +kernel
theorem dX7_play_19 : decode cX7_play 19 = .ok (.aload_n 0, 1) := by decide +kernel
theorem dX7_play_20 : decode cX7_play 20 = .ok (.getfield 16, 3) := by decide +kernel
theorem dX7_play_23 : decode cX7_play 23 = .ok (.invokevirtual 198, 3) := by decide +kernel
theorem dX7_play_26 : decode cX7_play 26 = .ok (.aload_n 0, 1) := by decide +kernel
theorem dX7_play_27 : decode cX7_play 27 = .ok (.aload_n 0, 1) := by decide +kernel
theorem dX7_play_28 : decode cX7_play 28 = .ok (.getfield 36, 3) := by decide +kernel
theorem dX7_play_31 : decode cX7_play 31 = .ok (.getfield 202, 3) := by decide +kernel
theorem dX7_play_34 : decode cX7_play 34 = .ok (.ifCond .ne 13, 3) := by decide +kernel
theorem dX7_play_37 : decode cX7_play 37 = .ok (.aload_n 0, 1) := by decide +kernel
theorem dX7_play_38 : decode cX7_play 38 = .ok (.getfield 36, 3) := by decide +kernel
theorem dX7_play_41 : decode cX7_play 41 = .ok (.getfield 211, 3) := by decide +kernel
theorem dX7_play_44 : decode cX7_play 44 = .ok (.goto 5, 3) := by decide +kernel
theorem dX7_play_47 : decode cX7_play 47 = .ok (.ldc 189, 2) := by decide +kernel
theorem dX7_play_49 : decode cX7_play 49 = .ok (.invokevirtual 64, 3) := by decide +kernel
theorem dX7_play_52 : decode cX7_play 52 = .ok (.ireturn, 1) := by decide +kernel
set_option maxRecDepth 20000 in
theorem ggX7_settle_X1_record : GoodIn wsX7_settle wsX1_record := goodIn_r _ [8, 9, 10, 11, 12, 13, 7, 14, 15, 16, 17, 18, 19, 20, 21, 22, 23, 24, 25, 26, 27, 28, 29, 30, 31, 32, 33, 34, 35, 36, 37, 38, 39, 40, 41, 42, 43, 44, 45, 54, 55, 56, 57, 58, 59, 60, 61, 62, 63, 64, 65, 66, 67, 68, 69] (by decide +kernel) (by decide +kernel)
set_option maxRecDepth 20000 in
theorem gX7_settle_X1_record : GoodIn wsX7_settle (wsV RX7 214 RX1 yX1_record wsX1_record) := goodIn_app (goodIn_of _ (by decide +kernel)) ggX7_settle_X1_record
set_option maxRecDepth 20000 in
theorem ggX7_settle_X0_copyFrom : GoodIn wsX7_settle wsX0_copyFrom := goodIn_r _ [19, 20, 21, 22, 23, 24, 25, 26, 27, 28, 29, 30, 31, 32, 33, 34, 35, 36, 37, 38, 39, 40, 41, 42, 43, 44, 45, 56, 57, 58, 59, 60, 61, 62, 63, 64, 65, 66, 67, 68, 69] (by decide +kernel) (by decide +kernel)
set_option maxRecDepth 20000 in
theorem gX7_settle_X0_copyFrom : GoodIn wsX7_settle (wsV RX7 56 RX0 yX0_copyFrom wsX0_copyFrom) := goodIn_app (goodIn_of _ (by decide +kernel)) ggX7_settle_X0_copyFrom
theorem dX7_settle_0 : decode cX7_settle 0 = .ok (.iload_n 1, 1) := by decide +kernel
theorem dX7_settle_1 : decode cX7_settle 1 = .ok (.ifCond .lt 25, 3) := by decide +kernel
theorem dX7_settle_4 : decode cX7_settle 4 = .ok (.aload_n 0, 1) := by decide +kernel
theorem dX7_settle_5 : decode cX7_settle 5 = .ok (.getfield 22, 3) := by decide +kernel
theorem dX7_settle_8 : decode cX7_settle 8 = .ok (.aload_n 0, 1) := by decide +kernel
theorem dX7_settle_9 : decode cX7_settle 9 = .ok (.getfield 10, 3) := by decide +kernel
theorem dX7_settle_12 : decode cX7_settle 12 = .ok (.invokevirtual 214, 3) := by decide +kernel
theorem dX7_settle_15 : decode cX7_settle 15 = .ok (.aload_n 0, 1) := by decide +kernel
theorem dX7_settle_16 : decode cX7_settle 16 = .ok (.getfield 10, 3) := by decide +kernel
theorem dX7_settle_19 : decode cX7_settle 19 = .ok (.aload_n 0, 1) := by decide +kernel
theorem dX7_settle_20 : decode cX7_settle 20 = .ok (.getfield 16, 3) := by decide +kernel
theorem dX7_settle_23 : decode cX7_settle 23 = .ok (.invokevirtual 56, 3) := by decide +kernel
theorem dX7_settle_26 : decode cX7_settle 26 = .ok (.iload_n 1, 1) := by decide +kernel
theorem dX7_settle_27 : decode cX7_settle 27 = .ok (.ireturn, 1) := by decide +kernel
set_option maxRecDepth 20000 in
theorem ggX7_countReasons_X5_clear : GoodIn wsX7_countReasons wsX5_clear := goodIn_r _ [7, 8, 74, 75] (by decide +kernel) (by decide +kernel)
set_option maxRecDepth 20000 in
theorem gX7_countReasons_X5_clear : GoodIn wsX7_countReasons (wsV RX7 217 RX5 yX5_clear wsX5_clear) := goodIn_app (goodIn_of _ (by decide +kernel)) ggX7_countReasons_X5_clear
set_option maxRecDepth 20000 in
theorem ggX7_countReasons_X0_cardsLeft : GoodIn wsX7_countReasons wsX0_cardsLeft := goodIn_r _ [13, 14, 15, 16, 12, 17, 18, 19, 20, 21, 22, 6, 23, 24, 8, 62, 63, 64, 65, 66, 67, 68, 69, 70, 71, 72, 73, 74, 75] (by decide +kernel) (by decide +kernel)
set_option maxRecDepth 20000 in
theorem gX7_countReasons_X0_cardsLeft : GoodIn wsX7_countReasons (wsV RX7 148 RX0 yX0_cardsLeft wsX0_cardsLeft) := goodIn_app (goodIn_of _ (by decide +kernel)) ggX7_countReasons_X0_cardsLeft
set_option maxRecDepth 20000 in
theorem ggX7_countReasons_X0_reasonAgainst : GoodIn wsX7_countReasons wsX0_reasonAgainst := goodIn_r _ [28, 19, 29, 30, 31, 32, 12, 33, 20, 21, 22, 6, 23, 24, 8, 34, 35, 36, 37, 38, 39, 40, 41, 42, 43, 44, 45, 46, 47, 48, 49, 62, 63, 64, 65, 66, 67, 68, 69, 70, 71, 72, 73, 74, 75] (by decide +kernel) (by decide +kernel)
set_option maxRecDepth 20000 in
theorem gX7_countReasons_X0_reasonAgainst : GoodIn wsX7_countReasons (wsV RX7 97 RX0 yX0_reasonAgainst wsX0_reasonAgainst) := goodIn_app (goodIn_of _ (by decide +kernel)) ggX7_countReasons_X0_reasonAgainst
set_option maxRecDepth 20000 in
theorem ggX7_countReasons_X5_get : GoodIn wsX7_countReasons wsX5_get := goodIn_r _ [23, 24, 8, 74, 75] (by decide +kernel) (by decide +kernel)
set_option maxRecDepth 20000 in
theorem gX7_countReasons_X5_get : GoodIn wsX7_countReasons (wsV RX7 114 RX5 yX5_get wsX5_get) := goodIn_app (goodIn_of _ (by decide +kernel)) ggX7_countReasons_X5_get
set_option maxRecDepth 20000 in
theorem ggX7_countReasons_X5_put : GoodIn wsX7_countReasons wsX5_put := goodIn_r _ [54, 24, 8, 74, 75] (by decide +kernel) (by decide +kernel)
set_option maxRecDepth 20000 in
theorem gX7_countReasons_X5_put : GoodIn wsX7_countReasons (wsV RX7 220 RX5 yX5_put wsX5_put) := goodIn_app (goodIn_of _ (by decide +kernel)) ggX7_countReasons_X5_put
theorem dX7_countReasons_0 : decode cX7_countReasons 0 = .ok (.aload_n 0, 1) := by decide +kernel
theorem dX7_countReasons_1 : decode cX7_countReasons 1 = .ok (.getfield 52, 3) := by decide +kernel
theorem dX7_countReasons_4 : decode cX7_countReasons 4 = .ok (.invokevirtual 217, 3) := by decide +kernel
theorem dX7_countReasons_7 : decode cX7_countReasons 7 = .ok (.aload_n 0, 1) := by decide +kernel
theorem dX7_countReasons_8 : decode cX7_countReasons 8 = .ok (.getfield 10, 3) := by decide +kernel
theorem dX7_countReasons_11 : decode cX7_countReasons 11 = .ok (.invokevirtual 148, 3) := by decide +kernel
theorem dX7_countReasons_14 : decode cX7_countReasons 14 = .ok (.istore_n 1, 1) := by decide +kernel
theorem dX7_countReasons_15 : decode cX7_countReasons 15 = .ok (.iconst 0, 1) := by decide +kernel
theorem dX7_countReasons_16 : decode cX7_countReasons 16 = .ok (.istore_n 2, 1) := by decide +kernel
theorem dX7_countReasons_17 : decode cX7_countReasons 17 = .ok (.iload_n 2, 1) := by decide +kernel
theorem dX7_countReasons_18 : decode cX7_countReasons 18 = .ok (.aload_n 0, 1) := by decide +kernel
theorem dX7_countReasons_19 : decode cX7_countReasons 19 = .ok (.getfield 10, 3) := by decide +kernel
theorem dX7_countReasons_22 : decode cX7_countReasons 22 = .ok (.getfield 160, 3) := by decide +kernel
theorem dX7_countReasons_25 : decode cX7_countReasons 25 = .ok (.if_icmp .ge 67, 3) := by decide +kernel
theorem dX7_countReasons_28 : decode cX7_countReasons 28 = .ok (.iload_n 1, 1) := by decide +kernel
theorem dX7_countReasons_29 : decode cX7_countReasons 29 = .ok (.iload_n 2, 1) := by decide +kernel
theorem dX7_countReasons_30 : decode cX7_countReasons 30 = .ok (.ishr, 1) := by decide +kernel
theorem dX7_countReasons_31 : decode cX7_countReasons 31 = .ok (.iconst 1, 1) := by decide +kernel
theorem dX7_countReasons_32 : decode cX7_countReasons 32 = .ok (.iand, 1) := by decide +kernel
theorem dX7_countReasons_33 : decode cX7_countReasons 33 = .ok (.ifCond .ne 6, 3) := by decide +kernel
theorem dX7_countReasons_36 : decode cX7_countReasons 36 = .ok (.goto 50, 3) := by decide +kernel
theorem dX7_countReasons_39 : decode cX7_countReasons 39 = .ok (.iconst 0, 1) := by decide +kernel
theorem dX7_countReasons_40 : decode cX7_countReasons 40 = .ok (.istore_n 3, 1) := by decide +kernel
theorem dX7_countReasons_41 : decode cX7_countReasons 41 = .ok (.iload_n 3, 1) := by decide +kernel
theorem dX7_countReasons_42 : decode cX7_countReasons 42 = .ok (.bipush 28, 2) := by decide +kernel
theorem dX7_countReasons_44 : decode cX7_countReasons 44 = .ok (.if_icmp .ge 42, 3) := by decide +kernel
theorem dX7_countReasons_47 : decode cX7_countReasons 47 = .ok (.aload_n 0, 1) := by decide +kernel
theorem dX7_countReasons_48 : decode cX7_countReasons 48 = .ok (.getfield 10, 3) := by decide +kernel
theorem dX7_countReasons_51 : decode cX7_countReasons 51 = .ok (.iload_n 2, 1) := by decide +kernel
theorem dX7_countReasons_52 : decode cX7_countReasons 52 = .ok (.iload_n 3, 1) := by decide +kernel
theorem dX7_countReasons_53 : decode cX7_countReasons 53 = .ok (.invokevirtual 97, 3) := by decide +kernel
theorem dX7_countReasons_56 : decode cX7_countReasons 56 = .ok (.istore 4, 2) := by decide +kernel
theorem dX7_countReasons_58 : decode cX7_countReasons 58 = .ok (.aload_n 0, 1) := by decide +kernel
theorem dX7_countReasons_59 : decode cX7_countReasons 59 = .ok (.getfield 52, 3) := by decide +kernel
theorem dX7_countReasons_62 : decode cX7_countReasons 62 = .ok (.iconst 0, 1) := by decide +kernel
theorem dX7_countReasons_63 : decode cX7_countReasons 63 = .ok (.iload 4, 2) := by decide +kernel
theorem dX7_countReasons_65 : decode cX7_countReasons 65 = .ok (.aload_n 0, 1) := by decide +kernel
theorem dX7_countReasons_66 : decode cX7_countReasons 66 = .ok (.getfield 52, 3) := by decide +kernel
theorem dX7_countReasons_69 : decode cX7_countReasons 69 = .ok (.iconst 0, 1) := by decide +kernel
theorem dX7_countReasons_70 : decode cX7_countReasons 70 = .ok (.iload 4, 2) := by decide +kernel
theorem dX7_countReasons_72 : decode cX7_countReasons 72 = .ok (.invokevirtual 114, 3) := by decide +kernel
theorem dX7_countReasons_75 : decode cX7_countReasons 75 = .ok (.iconst 1, 1) := by decide +kernel
theorem dX7_countReasons_76 : decode cX7_countReasons 76 = .ok (.iadd, 1) := by decide +kernel
theorem dX7_countReasons_77 : decode cX7_countReasons 77 = .ok (.invokevirtual 220, 3) := by decide +kernel
theorem dX7_countReasons_80 : decode cX7_countReasons 80 = .ok (.iinc 3 1, 3) := by decide +kernel
theorem dX7_countReasons_83 : decode cX7_countReasons 83 = .ok (.goto (-42), 3) := by decide +kernel
theorem dX7_countReasons_86 : decode cX7_countReasons 86 = .ok (.iinc 2 1, 3) := by decide +kernel
theorem dX7_countReasons_89 : decode cX7_countReasons 89 = .ok (.goto (-72), 3) := by decide +kernel
theorem dX7_countReasons_92 : decode cX7_countReasons 92 = .ok (.return_, 1) := by decide +kernel
theorem dX7_within_0 : decode cX7_within 0 = .ok (.iload_n 0, 1) := by decide +kernel
theorem dX7_within_1 : decode cX7_within 1 = .ok (.iload_n 1, 1) := by decide +kernel
theorem dX7_within_2 : decode cX7_within 2 = .ok (.if_icmp .lt 12, 3) := by decide +kernel
theorem dX7_within_5 : decode cX7_within 5 = .ok (.iload_n 0, 1) := by decide +kernel
theorem dX7_within_6 : decode cX7_within 6 = .ok (.iload_n 2, 1) := by decide +kernel
theorem dX7_within_7 : decode cX7_within 7 = .ok (.if_icmp .gt 7, 3) := by decide +kernel
theorem dX7_within_10 : decode cX7_within 10 = .ok (.iconst 1, 1) := by decide +kernel
theorem dX7_within_11 : decode cX7_within 11 = .ok (.goto 4, 3) := by decide +kernel
theorem dX7_within_14 : decode cX7_within 14 = .ok (.iconst 0, 1) := by decide +kernel
theorem dX7_within_15 : decode cX7_within 15 = .ok (.ireturn, 1) := by decide +kernel
theorem dJ6_bitCount_0f7a4_0 : decode cJ6_bitCount_0f7a4 0 = .ok (.iload_n 0, 1) := by decide +kernel
theorem dJ6_bitCount_0f7a4_1 : decode cJ6_bitCount_0f7a4 1 = .ok (.iload_n 0, 1) := by decide +kernel
theorem dJ6_bitCount_0f7a4_2 : decode cJ6_bitCount_0f7a4 2 = .ok (.iconst 1, 1) := by decide +kernel
theorem dJ6_bitCount_0f7a4_3 : decode cJ6_bitCount_0f7a4 3 = .ok (.iushr, 1) := by decide +kernel
theorem dJ6_bitCount_0f7a4_4 : decode cJ6_bitCount_0f7a4 4 = .ok (.ldc_w 265, 3) := by decide +kernel
theorem dJ6_bitCount_0f7a4_7 : decode cJ6_bitCount_0f7a4 7 = .ok (.iand, 1) := by decide +kernel
theorem dJ6_bitCount_0f7a4_8 : decode cJ6_bitCount_0f7a4 8 = .ok (.isub, 1) := by decide +kernel
theorem dJ6_bitCount_0f7a4_9 : decode cJ6_bitCount_0f7a4 9 = .ok (.istore_n 0, 1) := by decide +kernel
theorem dJ6_bitCount_0f7a4_10 : decode cJ6_bitCount_0f7a4 10 = .ok (.iload_n 0, 1) := by decide +kernel
theorem dJ6_bitCount_0f7a4_11 : decode cJ6_bitCount_0f7a4 11 = .ok (.ldc_w 266, 3) := by decide +kernel
theorem dJ6_bitCount_0f7a4_14 : decode cJ6_bitCount_0f7a4 14 = .ok (.iand, 1) := by decide +kernel
theorem dJ6_bitCount_0f7a4_15 : decode cJ6_bitCount_0f7a4 15 = .ok (.iload_n 0, 1) := by decide +kernel
theorem dJ6_bitCount_0f7a4_16 : decode cJ6_bitCount_0f7a4 16 = .ok (.iconst 2, 1) := by decide +kernel
theorem dJ6_bitCount_0f7a4_17 : decode cJ6_bitCount_0f7a4 17 = .ok (.iushr, 1) := by decide +kernel
theorem dJ6_bitCount_0f7a4_18 : decode cJ6_bitCount_0f7a4 18 = .ok (.ldc_w 266, 3) := by decide +kernel
theorem dJ6_bitCount_0f7a4_21 : decode cJ6_bitCount_0f7a4 21 = .ok (.iand, 1) := by decide +kernel
theorem dJ6_bitCount_0f7a4_22 : decode cJ6_bitCount_0f7a4 22 = .ok (.iadd, 1) := by decide +kernel
theorem dJ6_bitCount_0f7a4_23 : decode cJ6_bitCount_0f7a4 23 = .ok (.istore_n 0, 1) := by decide +kernel
theorem dJ6_bitCount_0f7a4_24 : decode cJ6_bitCount_0f7a4 24 = .ok (.iload_n 0, 1) := by decide +kernel
theorem dJ6_bitCount_0f7a4_25 : decode cJ6_bitCount_0f7a4 25 = .ok (.iload_n 0, 1) := by decide +kernel
theorem dJ6_bitCount_0f7a4_26 : decode cJ6_bitCount_0f7a4 26 = .ok (.iconst 4, 1) := by decide +kernel
theorem dJ6_bitCount_0f7a4_27 : decode cJ6_bitCount_0f7a4 27 = .ok (.iushr, 1) := by decide +kernel
theorem dJ6_bitCount_0f7a4_28 : decode cJ6_bitCount_0f7a4 28 = .ok (.iadd, 1) := by decide +kernel
theorem dJ6_bitCount_0f7a4_29 : decode cJ6_bitCount_0f7a4 29 = .ok (.ldc_w 267, 3) := by decide +kernel
theorem dJ6_bitCount_0f7a4_32 : decode cJ6_bitCount_0f7a4 32 = .ok (.iand, 1) := by decide +kernel
theorem dJ6_bitCount_0f7a4_33 : decode cJ6_bitCount_0f7a4 33 = .ok (.istore_n 0, 1) := by decide +kernel
theorem dJ6_bitCount_0f7a4_34 : decode cJ6_bitCount_0f7a4 34 = .ok (.iload_n 0, 1) := by decide +kernel
theorem dJ6_bitCount_0f7a4_35 : decode cJ6_bitCount_0f7a4 35 = .ok (.iload_n 0, 1) := by decide +kernel
theorem dJ6_bitCount_0f7a4_36 : decode cJ6_bitCount_0f7a4 36 = .ok (.bipush 8, 2) := by decide +kernel
theorem dJ6_bitCount_0f7a4_38 : decode cJ6_bitCount_0f7a4 38 = .ok (.iushr, 1) := by decide +kernel
theorem dJ6_bitCount_0f7a4_39 : decode cJ6_bitCount_0f7a4 39 = .ok (.iadd, 1) := by decide +kernel
theorem dJ6_bitCount_0f7a4_40 : decode cJ6_bitCount_0f7a4 40 = .ok (.istore_n 0, 1) := by decide +kernel
theorem dJ6_bitCount_0f7a4_41 : decode cJ6_bitCount_0f7a4 41 = .ok (.iload_n 0, 1) := by decide +kernel
theorem dJ6_bitCount_0f7a4_42 : decode cJ6_bitCount_0f7a4 42 = .ok (.iload_n 0, 1) := by decide +kernel
theorem dJ6_bitCount_0f7a4_43 : decode cJ6_bitCount_0f7a4 43 = .ok (.bipush 16, 2) := by decide +kernel
theorem dJ6_bitCount_0f7a4_45 : decode cJ6_bitCount_0f7a4 45 = .ok (.iushr, 1) := by decide +kernel
theorem dJ6_bitCount_0f7a4_46 : decode cJ6_bitCount_0f7a4 46 = .ok (.iadd, 1) := by decide +kernel
theorem dJ6_bitCount_0f7a4_47 : decode cJ6_bitCount_0f7a4 47 = .ok (.istore_n 0, 1) := by decide +kernel
theorem dJ6_bitCount_0f7a4_48 : decode cJ6_bitCount_0f7a4 48 = .ok (.iload_n 0, 1) := by decide +kernel
theorem dJ6_bitCount_0f7a4_49 : decode cJ6_bitCount_0f7a4 49 = .ok (.bipush 63, 2) := by decide +kernel
theorem dJ6_bitCount_0f7a4_51 : decode cJ6_bitCount_0f7a4 51 = .ok (.iand, 1) := by decide +kernel
theorem dJ6_bitCount_0f7a4_52 : decode cJ6_bitCount_0f7a4 52 = .ok (.ireturn, 1) := by decide +kernel
theorem dJ9_max_7cf53_0 : decode cJ9_max_7cf53 0 = .ok (.iload_n 0, 1) := by decide +kernel
theorem dJ9_max_7cf53_1 : decode cJ9_max_7cf53 1 = .ok (.iload_n 1, 1) := by decide +kernel
theorem dJ9_max_7cf53_2 : decode cJ9_max_7cf53 2 = .ok (.if_icmp .lt 7, 3) := by decide +kernel
theorem dJ9_max_7cf53_5 : decode cJ9_max_7cf53 5 = .ok (.iload_n 0, 1) := by decide +kernel
theorem dJ9_max_7cf53_6 : decode cJ9_max_7cf53 6 = .ok (.goto 4, 3) := by decide +kernel
theorem dJ9_max_7cf53_9 : decode cJ9_max_7cf53 9 = .ok (.iload_n 1, 1) := by decide +kernel
theorem dJ9_max_7cf53_10 : decode cJ9_max_7cf53 10 = .ok (.ireturn, 1) := by decide +kernel
theorem dJ9_min_7cf53_0 : decode cJ9_min_7cf53 0 = .ok (.iload_n 0, 1) := by decide +kernel
theorem dJ9_min_7cf53_1 : decode cJ9_min_7cf53 1 = .ok (.iload_n 1, 1) := by decide +kernel
theorem dJ9_min_7cf53_2 : decode cJ9_min_7cf53 2 = .ok (.if_icmp .gt 7, 3) := by decide +kernel
theorem dJ9_min_7cf53_5 : decode cJ9_min_7cf53 5 = .ok (.iload_n 0, 1) := by decide +kernel
theorem dJ9_min_7cf53_6 : decode cJ9_min_7cf53 6 = .ok (.goto 4, 3) := by decide +kernel
theorem dJ9_min_7cf53_9 : decode cJ9_min_7cf53 9 = .ok (.iload_n 1, 1) := by decide +kernel
theorem dJ9_min_7cf53_10 : decode cJ9_min_7cf53 10 = .ok (.ireturn, 1) := by decide +kernel
abbrev vwCl : List vw_C := [(RX0, TX0, 12), (RX1, TX1, 2), (RX2, TX2, 3), (RX3, TX3, 4), (RX4, TX4, 5), (RX5, TX5, 2), (RX6, TX6, 2), (RX7, TX7, 7)]
