theorem dX8_goesTo_8 : decode cX8_goesTo 8 = .ok (.idiv, 1) := by decide +kernel
theorem dX8_goesTo_9 : decode cX8_goesTo 9 = .ok (.aload_n 0, 1) := by decide +kernel
theorem dX8_goesTo_10 : decode cX8_goesTo 10 = .ok (.getfield 7, 3) := by decide +kernel
theorem dX8_goesTo_13 : decode cX8_goesTo 13 = .ok (.iconst 1, 1) := by decide +kernel
theorem dX8_goesTo_14 : decode cX8_goesTo 14 = .ok (.iaload, 1) := by decide +kernel
theorem dX8_goesTo_15 : decode cX8_goesTo 15 = .ok (.bipush 7, 2) := by decide +kernel
theorem dX8_goesTo_17 : decode cX8_goesTo 17 = .ok (.idiv, 1) := by decide +kernel
theorem dX8_goesTo_18 : decode cX8_goesTo 18 = .ok (.if_icmp .ne 12, 3) := by decide +kernel
theorem dX8_goesTo_21 : decode cX8_goesTo 21 = .ok (.aload_n 0, 1) := by decide +kernel
theorem dX8_goesTo_22 : decode cX8_goesTo 22 = .ok (.getfield 7, 3) := by decide +kernel
theorem dX8_goesTo_25 : decode cX8_goesTo 25 = .ok (.iconst 4, 1) := by decide +kernel
theorem dX8_goesTo_26 : decode cX8_goesTo 26 = .ok (.iaload, 1) := by decide +kernel
theorem dX8_goesTo_27 : decode cX8_goesTo 27 = .ok (.goto 4, 3) := by decide +kernel
theorem dX8_goesTo_30 : decode cX8_goesTo 30 = .ok (.iconst 0, 1) := by decide +kernel
theorem dX8_goesTo_31 : decode cX8_goesTo 31 = .ok (.iastore, 1) := by decide +kernel
theorem dX8_goesTo_32 : decode cX8_goesTo 32 = .ok (.aload_n 0, 1) := by decide +kernel
theorem dX8_goesTo_33 : decode cX8_goesTo 33 = .ok (.getfield 7, 3) := by decide +kernel
theorem dX8_goesTo_36 : decode cX8_goesTo 36 = .ok (.iconst 1, 1) := by decide +kernel
theorem dX8_goesTo_37 : decode cX8_goesTo 37 = .ok (.iload_n 1, 1) := by decide +kernel
theorem dX8_goesTo_38 : decode cX8_goesTo 38 = .ok (.iastore, 1) := by decide +kernel
theorem dX8_goesTo_39 : decode cX8_goesTo 39 = .ok (.aload_n 0, 1) := by decide +kernel
theorem dX8_goesTo_40 : decode cX8_goesTo 40 = .ok (.getfield 7, 3) := by decide +kernel
theorem dX8_goesTo_43 : decode cX8_goesTo 43 = .ok (.iconst 2, 1) := by decide +kernel
theorem dX8_goesTo_44 : decode cX8_goesTo 44 = .ok (.iconst 0, 1) := by decide +kernel
theorem dX8_goesTo_45 : decode cX8_goesTo 45 = .ok (.iastore, 1) := by decide +kernel
theorem dX8_goesTo_46 : decode cX8_goesTo 46 = .ok (.aload_n 0, 1) := by decide +kernel
theorem dX8_goesTo_47 : decode cX8_goesTo 47 = .ok (.getfield 7, 3) := by decide +kernel
theorem dX8_goesTo_50 : decode cX8_goesTo 50 = .ok (.iconst 3, 1) := by decide +kernel
theorem dX8_goesTo_51 : decode cX8_goesTo 51 = .ok (.iconst 0, 1) := by decide +kernel
theorem dX8_goesTo_52 : decode cX8_goesTo 52 = .ok (.iastore, 1) := by decide +kernel
theorem dX8_goesTo_53 : decode cX8_goesTo 53 = .ok (.return_, 1) := by decide +kernel
set_option maxRecDepth 20000 in
theorem ggX8_passes_X8_in : GoodIn wsX8_passes wsX8_in := goodIn_r _ [7] (by decide +kernel) (by decide +kernel)
set_option maxRecDepth 20000 in
theorem gX8_passes_X8_in : GoodIn wsX8_passes (va_wsS RX8 31 yX8_in wsX8_in) := goodIn_app (goodIn_of _ (by decide +kernel)) ggX8_passes_X8_in
set_option maxRecDepth 20000 in
theorem ggX8_passes_X8_goesTo : GoodIn wsX8_passes wsX8_goesTo := goodIn_r _ [11, 2, 12, 13, 14, 15, 16, 17, 18, 19, 20, 21, 22, 23, 24, 25, 26, 27, 28, 29] (by decide +kernel) (by decide +kernel)
set_option maxRecDepth 20000 in
theorem gX8_passes_X8_goesTo : GoodIn wsX8_passes (wsV RX8 73 RX8 yX8_goesTo wsX8_goesTo) := goodIn_app (goodIn_of _ (by decide +kernel)) ggX8_passes_X8_goesTo
theorem dX8_passes_0 : decode cX8_passes 0 = .ok (.iload_n 1, 1) := by decide +kernel
theorem dX8_passes_1 : decode cX8_passes 1 = .ok (.iconst 1, 1) := by decide +kernel
theorem dX8_passes_2 : decode cX8_passes 2 = .ok (.bipush 99, 2) := by decide +kernel
theorem dX8_passes_4 : decode cX8_passes 4 = .ok (.invokestatic 31, 3) := by decide +kernel
theorem dX8_passes_7 : decode cX8_passes 7 = .ok (.ifCond .ne 6, 3) := by decide +kernel
theorem dX8_passes_10 : decode cX8_passes 10 = .ok (.ldc 35, 2) := by decide +kernel
theorem dX8_passes_12 : decode cX8_passes 12 = .ok (.ireturn, 1) := by decide +kernel
theorem dX8_passes_13 : decode cX8_passes 13 = .ok (.aload_n 0, 1) := by decide +kernel
theorem dX8_passes_14 : decode cX8_passes 14 = .ok (.getfield 7, 3) := by decide +kernel
theorem dX8_passes_17 : decode cX8_passes 17 = .ok (.iconst 1, 1) := by decide +kernel
theorem dX8_passes_18 : decode cX8_passes 18 = .ok (.iaload, 1) := by decide +kernel
theorem dX8_passes_19 : decode cX8_passes 19 = .ok (.iload_n 1, 1) := by decide +kernel
theorem dX8_passes_20 : decode cX8_passes 20 = .ok (.iadd, 1) := by decide +kernel
theorem dX8_passes_21 : decode cX8_passes 21 = .ok (.sipush 999, 3) := by decide +kernel
theorem dX8_passes_24 : decode cX8_passes 24 = .ok (.if_icmp .le 6, 3) := by decide +kernel
theorem dX8_passes_27 : decode cX8_passes 27 = .ok (.ldc 72, 2) := by decide +kernel
theorem dX8_passes_29 : decode cX8_passes 29 = .ok (.ireturn, 1) := by decide +kernel
theorem dX8_passes_30 : decode cX8_passes 30 = .ok (.aload_n 0, 1) := by decide +kernel
theorem dX8_passes_31 : decode cX8_passes 31 = .ok (.aload_n 0, 1) := by decide +kernel
theorem dX8_passes_32 : decode cX8_passes 32 = .ok (.getfield 7, 3) := by decide +kernel
theorem dX8_passes_35 : decode cX8_passes 35 = .ok (.iconst 1, 1) := by decide +kernel
theorem dX8_passes_36 : decode cX8_passes 36 = .ok (.iaload, 1) := by decide +kernel
theorem dX8_passes_37 : decode cX8_passes 37 = .ok (.iload_n 1, 1) := by decide +kernel
theorem dX8_passes_38 : decode cX8_passes 38 = .ok (.iadd, 1) := by decide +kernel
theorem dX8_passes_39 : decode cX8_passes 39 = .ok (.invokevirtual 73, 3) := by decide +kernel
theorem dX8_passes_42 : decode cX8_passes 42 = .ok (.aload_n 0, 1) := by decide +kernel
theorem dX8_passes_43 : decode cX8_passes 43 = .ok (.getfield 7, 3) := by decide +kernel
theorem dX8_passes_46 : decode cX8_passes 46 = .ok (.iconst 1, 1) := by decide +kernel
theorem dX8_passes_47 : decode cX8_passes 47 = .ok (.iaload, 1) := by decide +kernel
theorem dX8_passes_48 : decode cX8_passes 48 = .ok (.ireturn, 1) := by decide +kernel
set_option maxRecDepth 20000 in
theorem ggX8_comes_X8_isLimit : GoodIn wsX8_comes wsX8_isLimit := goodIn_r _ [7, 8, 9, 6, 10] (by decide +kernel) (by decide +kernel)
set_option maxRecDepth 20000 in
theorem gX8_comes_X8_isLimit : GoodIn wsX8_comes (va_wsS RX8 77 yX8_isLimit wsX8_isLimit) := goodIn_app (goodIn_of _ (by decide +kernel)) ggX8_comes_X8_isLimit
set_option maxRecDepth 20000 in
theorem ggX8_comes_X8_in : GoodIn wsX8_comes wsX8_in := goodIn_r _ [10] (by decide +kernel) (by decide +kernel)
set_option maxRecDepth 20000 in
theorem gX8_comes_X8_in : GoodIn wsX8_comes (va_wsS RX8 31 yX8_in wsX8_in) := goodIn_app (goodIn_of _ (by decide +kernel)) ggX8_comes_X8_in
set_option maxRecDepth 20000 in
theorem ggX8_comes_X8_lays : GoodIn wsX8_comes wsX8_lays := goodIn_r _ [14, 1, 15, 16, 17, 18, 19, 20, 21, 22, 23, 24, 25, 26, 27, 28, 29, 30, 31, 32] (by decide +kernel) (by decide +kernel)
set_option maxRecDepth 20000 in
theorem gX8_comes_X8_lays : GoodIn wsX8_comes (wsV RX8 68 RX8 yX8_lays wsX8_lays) := goodIn_app (goodIn_of _ (by decide +kernel)) ggX8_comes_X8_lays
theorem dX8_comes_0 : decode cX8_comes 0 = .ok (.iload_n 1, 1) := by decide +kernel
theorem dX8_comes_1 : decode cX8_comes 1 = .ok (.invokestatic 77, 3) := by decide +kernel
theorem dX8_comes_4 : decode cX8_comes 4 = .ok (.ifCond .eq 55, 3) := by decide +kernel
theorem dX8_comes_7 : decode cX8_comes 7 = .ok (.iload_n 2, 1) := by decide +kernel
theorem dX8_comes_8 : decode cX8_comes 8 = .ok (.invokestatic 77, 3) := by decide +kernel
theorem dX8_comes_11 : decode cX8_comes 11 = .ok (.ifCond .eq 48, 3) := by decide +kernel
theorem dX8_comes_14 : decode cX8_comes 14 = .ok (.iload_n 3, 1) := by decide +kernel
theorem dX8_comes_15 : decode cX8_comes 15 = .ok (.invokestatic 77, 3) := by decide +kernel
theorem dX8_comes_18 : decode cX8_comes 18 = .ok (.ifCond .eq 41, 3) := by decide +kernel
theorem dX8_comes_21 : decode cX8_comes 21 = .ok (.iload 4, 2) := by decide +kernel
theorem dX8_comes_23 : decode cX8_comes 23 = .ok (.iconst 0, 1) := by decide +kernel
theorem dX8_comes_24 : decode cX8_comes 24 = .ok (.iconst 3, 1) := by decide +kernel
theorem dX8_comes_25 : decode cX8_comes 25 = .ok (.invokestatic 31, 3) := by decide +kernel
theorem dX8_comes_28 : decode cX8_comes 28 = .ok (.ifCond .eq 31, 3) := by decide +kernel
theorem dX8_comes_31 : decode cX8_comes 31 = .ok (.iload 5, 2) := by decide +kernel
theorem dX8_comes_33 : decode cX8_comes 33 = .ok (.iconst 1, 1) := by decide +kernel
theorem dX8_comes_34 : decode cX8_comes 34 = .ok (.bipush 9, 2) := by decide +kernel
theorem dX8_comes_36 : decode cX8_comes 36 = .ok (.invokestatic 31, 3) := by decide +kernel
theorem dX8_comes_39 : decode cX8_comes 39 = .ok (.ifCond .eq 20, 3) := by decide +kernel
theorem dX8_comes_42 : decode cX8_comes 42 = .ok (.iload 6, 2) := by decide +kernel
theorem dX8_comes_44 : decode cX8_comes 44 = .ok (.iconst (-1), 1) := by decide +kernel
theorem dX8_comes_45 : decode cX8_comes 45 = .ok (.aload_n 0, 1) := by decide +kernel
theorem dX8_comes_46 : decode cX8_comes 46 = .ok (.getfield 7, 3) := by decide +kernel
theorem dX8_comes_49 : decode cX8_comes 49 = .ok (.iconst 0, 1) := by decide +kernel
theorem dX8_comes_50 : decode cX8_comes 50 = .ok (.iaload, 1) := by decide +kernel
theorem dX8_comes_51 : decode cX8_comes 51 = .ok (.iconst 1, 1) := by decide +kernel
theorem dX8_comes_52 : decode cX8_comes 52 = .ok (.isub, 1) := by decide +kernel
theorem dX8_comes_53 : decode cX8_comes 53 = .ok (.invokestatic 31, 3) := by decide +kernel
theorem dX8_comes_56 : decode cX8_comes 56 = .ok (.ifCond .ne 6, 3) := by decide +kernel
theorem dX8_comes_59 : decode cX8_comes 59 = .ok (.ldc 35, 2) := by decide +kernel
theorem dX8_comes_61 : decode cX8_comes 61 = .ok (.ireturn, 1) := by decide +kernel
theorem dX8_comes_62 : decode cX8_comes 62 = .ok (.aload_n 0, 1) := by decide +kernel
theorem dX8_comes_63 : decode cX8_comes 63 = .ok (.getfield 7, 3) := by decide +kernel
theorem dX8_comes_66 : decode cX8_comes 66 = .ok (.iconst 0, 1) := by decide +kernel
theorem dX8_comes_67 : decode cX8_comes 67 = .ok (.iaload, 1) := by decide +kernel
theorem dX8_comes_68 : decode cX8_comes 68 = .ok (.bipush 12, 2) := by decide +kernel
theorem dX8_comes_70 : decode cX8_comes 70 = .ok (.if_icmp .ne 6, 3) := by decide +kernel
theorem dX8_comes_73 : decode cX8_comes 73 = .ok (.ldc 72, 2) := by decide +kernel
theorem dX8_comes_75 : decode cX8_comes 75 = .ok (.ireturn, 1) := by decide +kernel
theorem dX8_comes_76 : decode cX8_comes 76 = .ok (.aload_n 0, 1) := by decide +kernel
theorem dX8_comes_77 : decode cX8_comes 77 = .ok (.getfield 7, 3) := by decide +kernel
theorem dX8_comes_80 : decode cX8_comes 80 = .ok (.iconst 0, 1) := by decide +kernel
theorem dX8_comes_81 : decode cX8_comes 81 = .ok (.iaload, 1) := by decide +kernel
theorem dX8_comes_82 : decode cX8_comes 82 = .ok (.istore 7, 2) := by decide +kernel
theorem dX8_comes_84 : decode cX8_comes 84 = .ok (.aload_n 0, 1) := by decide +kernel
theorem dX8_comes_85 : decode cX8_comes 85 = .ok (.getfield 7, 3) := by decide +kernel
theorem dX8_comes_88 : decode cX8_comes 88 = .ok (.iconst 0, 1) := by decide +kernel
theorem dX8_comes_89 : decode cX8_comes 89 = .ok (.dup2, 1) := by decide +kernel
theorem dX8_comes_90 : decode cX8_comes 90 = .ok (.iaload, 1) := by decide +kernel
theorem dX8_comes_91 : decode cX8_comes 91 = .ok (.iconst 1, 1) := by decide +kernel
theorem dX8_comes_92 : decode cX8_comes 92 = .ok (.iadd, 1) := by decide +kernel
theorem dX8_comes_93 : decode cX8_comes 93 = .ok (.iastore, 1) := by decide +kernel
theorem dX8_comes_94 : decode cX8_comes 94 = .ok (.aload_n 0, 1) := by decide +kernel
theorem dX8_comes_95 : decode cX8_comes 95 = .ok (.iload 7, 2) := by decide +kernel
theorem dX8_comes_97 : decode cX8_comes 97 = .ok (.iconst 0, 1) := by decide +kernel
theorem dX8_comes_98 : decode cX8_comes 98 = .ok (.iload_n 1, 1) := by decide +kernel
theorem dX8_comes_99 : decode cX8_comes 99 = .ok (.invokevirtual 68, 3) := by decide +kernel
theorem dX8_comes_102 : decode cX8_comes 102 = .ok (.aload_n 0, 1) := by decide +kernel
theorem dX8_comes_103 : decode cX8_comes 103 = .ok (.iload 7, 2) := by decide +kernel
theorem dX8_comes_105 : decode cX8_comes 105 = .ok (.iconst 1, 1) := by decide +kernel
theorem dX8_comes_106 : decode cX8_comes 106 = .ok (.iload_n 2, 1) := by decide +kernel
theorem dX8_comes_107 : decode cX8_comes 107 = .ok (.invokevirtual 68, 3) := by decide +kernel
theorem dX8_comes_110 : decode cX8_comes 110 = .ok (.aload_n 0, 1) := by decide +kernel
theorem dX8_comes_111 : decode cX8_comes 111 = .ok (.iload 7, 2) := by decide +kernel
theorem dX8_comes_113 : decode cX8_comes 113 = .ok (.iconst 2, 1) := by decide +kernel
theorem dX8_comes_114 : decode cX8_comes 114 = .ok (.iload_n 3, 1) := by decide +kernel
theorem dX8_comes_115 : decode cX8_comes 115 = .ok (.invokevirtual 68, 3) := by decide +kernel
theorem dX8_comes_118 : decode cX8_comes 118 = .ok (.aload_n 0, 1) := by decide +kernel
theorem dX8_comes_119 : decode cX8_comes 119 = .ok (.iload 7, 2) := by decide +kernel
theorem dX8_comes_121 : decode cX8_comes 121 = .ok (.iconst 3, 1) := by decide +kernel
theorem dX8_comes_122 : decode cX8_comes 122 = .ok (.iload 4, 2) := by decide +kernel
theorem dX8_comes_124 : decode cX8_comes 124 = .ok (.invokevirtual 68, 3) := by decide +kernel
theorem dX8_comes_127 : decode cX8_comes 127 = .ok (.aload_n 0, 1) := by decide +kernel
theorem dX8_comes_128 : decode cX8_comes 128 = .ok (.iload 7, 2) := by decide +kernel
theorem dX8_comes_130 : decode cX8_comes 130 = .ok (.iconst 4, 1) := by decide +kernel
theorem dX8_comes_131 : decode cX8_comes 131 = .ok (.iload 5, 2) := by decide +kernel
theorem dX8_comes_133 : decode cX8_comes 133 = .ok (.invokevirtual 68, 3) := by decide +kernel
theorem dX8_comes_136 : decode cX8_comes 136 = .ok (.aload_n 0, 1) := by decide +kernel
theorem dX8_comes_137 : decode cX8_comes 137 = .ok (.iload 7, 2) := by decide +kernel
theorem dX8_comes_139 : decode cX8_comes 139 = .ok (.iconst 5, 1) := by decide +kernel
theorem dX8_comes_140 : decode cX8_comes 140 = .ok (.iload 6, 2) := by decide +kernel
theorem dX8_comes_142 : decode cX8_comes 142 = .ok (.invokevirtual 68, 3) := by decide +kernel
theorem dX8_comes_145 : decode cX8_comes 145 = .ok (.aload_n 0, 1) := by decide +kernel
theorem dX8_comes_146 : decode cX8_comes 146 = .ok (.iload 7, 2) := by decide +kernel
theorem dX8_comes_148 : decode cX8_comes 148 = .ok (.bipush 6, 2) := by decide +kernel
theorem dX8_comes_150 : decode cX8_comes 150 = .ok (.iconst 0, 1) := by decide +kernel
theorem dX8_comes_151 : decode cX8_comes 151 = .ok (.invokevirtual 68, 3) := by decide +kernel
theorem dX8_comes_154 : decode cX8_comes 154 = .ok (.aload_n 0, 1) := by decide +kernel
theorem dX8_comes_155 : decode cX8_comes 155 = .ok (.iload 7, 2) := by decide +kernel
theorem dX8_comes_157 : decode cX8_comes 157 = .ok (.bipush 7, 2) := by decide +kernel
theorem dX8_comes_159 : decode cX8_comes 159 = .ok (.iconst 0, 1) := by decide +kernel
theorem dX8_comes_160 : decode cX8_comes 160 = .ok (.invokevirtual 68, 3) := by decide +kernel
theorem dX8_comes_163 : decode cX8_comes 163 = .ok (.iload 7, 2) := by decide +kernel
theorem dX8_comes_165 : decode cX8_comes 165 = .ok (.ireturn, 1) := by decide +kernel
set_option maxRecDepth 20000 in
theorem ggX8_tells_X8_in : GoodIn wsX8_tells wsX8_in := goodIn_r _ [6] (by decide +kernel) (by decide +kernel)
set_option maxRecDepth 20000 in
theorem gX8_tells_X8_in : GoodIn wsX8_tells (va_wsS RX8 31 yX8_in wsX8_in) := goodIn_app (goodIn_of _ (by decide +kernel)) ggX8_tells_X8_in
set_option maxRecDepth 20000 in
theorem ggX8_tells_X8_isLimit : GoodIn wsX8_tells wsX8_isLimit := goodIn_r _ [9, 3, 4, 5, 6] (by decide +kernel) (by decide +kernel)
set_option maxRecDepth 20000 in
theorem gX8_tells_X8_isLimit : GoodIn wsX8_tells (va_wsS RX8 77 yX8_isLimit wsX8_isLimit) := goodIn_app (goodIn_of _ (by decide +kernel)) ggX8_tells_X8_isLimit
set_option maxRecDepth 20000 in
theorem ggX8_tells_X8_cardsBy : GoodIn wsX8_tells wsX8_cardsBy := goodIn_r _ [13, 2, 14, 15, 16, 5, 17, 18, 19, 20, 21, 22, 23, 24, 25, 29, 30, 31, 32, 33, 34, 35, 36, 37, 38, 39, 40, 41, 42, 43, 44, 45, 46] (by decide +kernel) (by decide +kernel)
set_option maxRecDepth 20000 in
theorem gX8_tells_X8_cardsBy : GoodIn wsX8_tells (wsV RX8 80 RX8 yX8_cardsBy wsX8_cardsBy) := goodIn_app (goodIn_of _ (by decide +kernel)) ggX8_tells_X8_cardsBy
set_option maxRecDepth 20000 in
theorem ggX8_tells_X8_ones : GoodIn wsX8_tells wsX8_ones := goodIn_r _ [28] (by decide +kernel) (by decide +kernel)
set_option maxRecDepth 20000 in
theorem gX8_tells_X8_ones : GoodIn wsX8_tells (va_wsS RX8 84 yX8_ones wsX8_ones) := goodIn_app (goodIn_of _ (by decide +kernel)) ggX8_tells_X8_ones
theorem dX8_tells_0 : decode cX8_tells 0 = .ok (.iload_n 1, 1) := by decide +kernel
theorem dX8_tells_1 : decode cX8_tells 1 = .ok (.iconst 0, 1) := by decide +kernel
theorem dX8_tells_2 : decode cX8_tells 2 = .ok (.bipush 27, 2) := by decide +kernel
theorem dX8_tells_4 : decode cX8_tells 4 = .ok (.invokestatic 31, 3) := by decide +kernel
theorem dX8_tells_7 : decode cX8_tells 7 = .ok (.ifCond .eq 25, 3) := by decide +kernel
theorem dX8_tells_10 : decode cX8_tells 10 = .ok (.iload_n 2, 1) := by decide +kernel
theorem dX8_tells_11 : decode cX8_tells 11 = .ok (.invokestatic 77, 3) := by decide +kernel
theorem dX8_tells_14 : decode cX8_tells 14 = .ok (.ifCond .eq 18, 3) := by decide +kernel
theorem dX8_tells_17 : decode cX8_tells 17 = .ok (.iload_n 3, 1) := by decide +kernel
theorem dX8_tells_18 : decode cX8_tells 18 = .ok (.invokestatic 77, 3) := by decide +kernel
theorem dX8_tells_21 : decode cX8_tells 21 = .ok (.ifCond .eq 11, 3) := by decide +kernel
theorem dX8_tells_24 : decode cX8_tells 24 = .ok (.iload 4, 2) := by decide +kernel
theorem dX8_tells_26 : decode cX8_tells 26 = .ok (.invokestatic 77, 3) := by decide +kernel
theorem dX8_tells_29 : decode cX8_tells 29 = .ok (.ifCond .ne 6, 3) := by decide +kernel
theorem dX8_tells_32 : decode cX8_tells 32 = .ok (.ldc 35, 2) := by decide +kernel
theorem dX8_tells_34 : decode cX8_tells 34 = .ok (.ireturn, 1) := by decide +kernel
theorem dX8_tells_35 : decode cX8_tells 35 = .ok (.aload_n 0, 1) := by decide +kernel
theorem dX8_tells_36 : decode cX8_tells 36 = .ok (.getfield 7, 3) := by decide +kernel
theorem dX8_tells_39 : decode cX8_tells 39 = .ok (.bipush 62, 2) := by decide +kernel
theorem dX8_tells_41 : decode cX8_tells 41 = .ok (.iconst 3, 1) := by decide +kernel
theorem dX8_tells_42 : decode cX8_tells 42 = .ok (.iload_n 1, 1) := by decide +kernel
theorem dX8_tells_43 : decode cX8_tells 43 = .ok (.imul, 1) := by decide +kernel
theorem dX8_tells_44 : decode cX8_tells 44 = .ok (.iadd, 1) := by decide +kernel
theorem dX8_tells_45 : decode cX8_tells 45 = .ok (.iload_n 2, 1) := by decide +kernel
theorem dX8_tells_46 : decode cX8_tells 46 = .ok (.iastore, 1) := by decide +kernel
theorem dX8_tells_47 : decode cX8_tells 47 = .ok (.aload_n 0, 1) := by decide +kernel
theorem dX8_tells_48 : decode cX8_tells 48 = .ok (.getfield 7, 3) := by decide +kernel
theorem dX8_tells_51 : decode cX8_tells 51 = .ok (.bipush 62, 2) := by decide +kernel
theorem dX8_tells_53 : decode cX8_tells 53 = .ok (.iconst 3, 1) := by decide +kernel
theorem dX8_tells_54 : decode cX8_tells 54 = .ok (.iload_n 1, 1) := by decide +kernel
theorem dX8_tells_55 : decode cX8_tells 55 = .ok (.imul, 1) := by decide +kernel
theorem dX8_tells_56 : decode cX8_tells 56 = .ok (.iadd, 1) := by decide +kernel
theorem dX8_tells_57 : decode cX8_tells 57 = .ok (.iconst 1, 1) := by decide +kernel
theorem dX8_tells_58 : decode cX8_tells 58 = .ok (.iadd, 1) := by decide +kernel
theorem dX8_tells_59 : decode cX8_tells 59 = .ok (.iload_n 3, 1) := by decide +kernel
theorem dX8_tells_60 : decode cX8_tells 60 = .ok (.iastore, 1) := by decide +kernel
theorem dX8_tells_61 : decode cX8_tells 61 = .ok (.aload_n 0, 1) := by decide +kernel
theorem dX8_tells_62 : decode cX8_tells 62 = .ok (.getfield 7, 3) := by decide +kernel
theorem dX8_tells_65 : decode cX8_tells 65 = .ok (.bipush 62, 2) := by decide +kernel
theorem dX8_tells_67 : decode cX8_tells 67 = .ok (.iconst 3, 1) := by decide +kernel
theorem dX8_tells_68 : decode cX8_tells 68 = .ok (.iload_n 1, 1) := by decide +kernel
theorem dX8_tells_69 : decode cX8_tells 69 = .ok (.imul, 1) := by decide +kernel
theorem dX8_tells_70 : decode cX8_tells 70 = .ok (.iadd, 1) := by decide +kernel
theorem dX8_tells_71 : decode cX8_tells 71 = .ok (.iconst 2, 1) := by decide +kernel
theorem dX8_tells_72 : decode cX8_tells 72 = .ok (.iadd, 1) := by decide +kernel
theorem dX8_tells_73 : decode cX8_tells 73 = .ok (.iload 4, 2) := by decide +kernel
theorem dX8_tells_75 : decode cX8_tells 75 = .ok (.iastore, 1) := by decide +kernel
theorem dX8_tells_76 : decode cX8_tells 76 = .ok (.aload_n 0, 1) := by decide +kernel
theorem dX8_tells_77 : decode cX8_tells 77 = .ok (.iload_n 1, 1) := by decide +kernel
theorem dX8_tells_78 : decode cX8_tells 78 = .ok (.invokevirtual 80, 3) := by decide +kernel
theorem dX8_tells_81 : decode cX8_tells 81 = .ok (.invokestatic 84, 3) := by decide +kernel
theorem dX8_tells_84 : decode cX8_tells 84 = .ok (.ireturn, 1) := by decide +kernel
set_option maxRecDepth 20000 in
theorem ggX8_opens_X8_lays : GoodIn wsX8_opens wsX8_lays := goodIn_r _ [6, 1, 15, 16, 17, 18, 19, 20, 21, 22, 23, 24, 25, 26, 27, 28, 29, 30, 31, 32] (by decide +kernel) (by decide +kernel)
set_option maxRecDepth 20000 in
theorem gX8_opens_X8_lays : GoodIn wsX8_opens (wsV RX8 68 RX8 yX8_lays wsX8_lays) := goodIn_app (goodIn_of _ (by decide +kernel)) ggX8_opens_X8_lays
set_option maxRecDepth 20000 in
theorem ggX8_opens_X8_of : GoodIn wsX8_opens wsX8_of := goodIn_r _ [10, 1, 15, 16, 17, 18, 19, 20, 21, 22, 23, 24, 25, 26, 27, 28, 29, 30, 31, 32] (by decide +kernel) (by decide +kernel)
set_option maxRecDepth 20000 in
theorem gX8_opens_X8_of : GoodIn wsX8_opens (wsV RX8 43 RX8 yX8_of wsX8_of) := goodIn_app (goodIn_of _ (by decide +kernel)) ggX8_opens_X8_of
set_option maxRecDepth 20000 in
theorem ggX8_opens_X8_isBehind : GoodIn wsX8_opens wsX8_isBehind := goodIn_r _ [14, 7, 8, 9, 5, 10, 1, 15, 16, 17, 18, 19, 20, 21, 22, 23, 24, 25, 26, 27, 28, 29, 30, 31, 32] (by decide +kernel) (by decide +kernel)
set_option maxRecDepth 20000 in
theorem gX8_opens_X8_isBehind : GoodIn wsX8_opens (wsV RX8 87 RX8 yX8_isBehind wsX8_isBehind) := goodIn_app (goodIn_of _ (by decide +kernel)) ggX8_opens_X8_isBehind
theorem dX8_opens_0 : decode cX8_opens 0 = .ok (.iconst 1, 1) := by decide +kernel
theorem dX8_opens_1 : decode cX8_opens 1 = .ok (.istore_n 2, 1) := by decide +kernel
theorem dX8_opens_2 : decode cX8_opens 2 = .ok (.aload_n 0, 1) := by decide +kernel
theorem dX8_opens_3 : decode cX8_opens 3 = .ok (.iload_n 1, 1) := by decide +kernel
theorem dX8_opens_4 : decode cX8_opens 4 = .ok (.bipush 6, 2) := by decide +kernel
theorem dX8_opens_6 : decode cX8_opens 6 = .ok (.iconst 2, 1) := by decide +kernel
theorem dX8_opens_7 : decode cX8_opens 7 = .ok (.invokevirtual 68, 3) := by decide +kernel
theorem dX8_opens_10 : decode cX8_opens 10 = .ok (.iconst 0, 1) := by decide +kernel
theorem dX8_opens_11 : decode cX8_opens 11 = .ok (.istore_n 3, 1) := by decide +kernel
theorem dX8_opens_12 : decode cX8_opens 12 = .ok (.iload_n 3, 1) := by decide +kernel
theorem dX8_opens_13 : decode cX8_opens 13 = .ok (.aload_n 0, 1) := by decide +kernel
theorem dX8_opens_14 : decode cX8_opens 14 = .ok (.getfield 7, 3) := by decide +kernel
theorem dX8_opens_17 : decode cX8_opens 17 = .ok (.iconst 0, 1) := by decide +kernel
theorem dX8_opens_18 : decode cX8_opens 18 = .ok (.iaload, 1) := by decide +kernel
theorem dX8_opens_19 : decode cX8_opens 19 = .ok (.if_icmp .ge 40, 3) := by decide +kernel
theorem dX8_opens_22 : decode cX8_opens 22 = .ok (.aload_n 0, 1) := by decide +kernel
theorem dX8_opens_23 : decode cX8_opens 23 = .ok (.iload_n 3, 1) := by decide +kernel
theorem dX8_opens_24 : decode cX8_opens 24 = .ok (.bipush 6, 2) := by decide +kernel
theorem dX8_opens_26 : decode cX8_opens 26 = .ok (.invokevirtual 43, 3) := by decide +kernel
theorem dX8_opens_29 : decode cX8_opens 29 = .ok (.iconst 1, 1) := by decide +kernel
theorem dX8_opens_30 : decode cX8_opens 30 = .ok (.if_icmp .ne 23, 3) := by decide +kernel
theorem dX8_opens_33 : decode cX8_opens 33 = .ok (.aload_n 0, 1) := by decide +kernel
theorem dX8_opens_34 : decode cX8_opens 34 = .ok (.iload_n 3, 1) := by decide +kernel
theorem dX8_opens_35 : decode cX8_opens 35 = .ok (.iload_n 1, 1) := by decide +kernel
theorem dX8_opens_36 : decode cX8_opens 36 = .ok (.invokevirtual 87, 3) := by decide +kernel
theorem dX8_opens_39 : decode cX8_opens 39 = .ok (.ifCond .eq 14, 3) := by decide +kernel
theorem dX8_opens_42 : decode cX8_opens 42 = .ok (.aload_n 0, 1) := by decide +kernel
theorem dX8_opens_43 : decode cX8_opens 43 = .ok (.iload_n 3, 1) := by decide +kernel
theorem dX8_opens_44 : decode cX8_opens 44 = .ok (.bipush 6, 2) := by decide +kernel
theorem dX8_opens_46 : decode cX8_opens 46 = .ok (.iconst 2, 1) := by decide +kernel
theorem dX8_opens_47 : decode cX8_opens 47 = .ok (.invokevirtual 68, 3) := by decide +kernel
theorem dX8_opens_50 : decode cX8_opens 50 = .ok (.iinc 2 1, 3) := by decide +kernel
theorem dX8_opens_53 : decode cX8_opens 53 = .ok (.iinc 3 1, 3) := by decide +kernel
theorem dX8_opens_56 : decode cX8_opens 56 = .ok (.goto (-44), 3) := by decide +kernel
theorem dX8_opens_59 : decode cX8_opens 59 = .ok (.iload_n 2, 1) := by decide +kernel
theorem dX8_opens_60 : decode cX8_opens 60 = .ok (.ireturn, 1) := by decide +kernel
set_option maxRecDepth 20000 in
theorem ggX8_card_X8_begins : GoodIn wsX8_card wsX8_begins := goodIn_r _ [5, 6, 7, 34, 35, 36, 37, 38, 39, 40, 41, 42, 43, 44, 45, 46, 47, 48, 49, 50, 51] (by decide +kernel) (by decide +kernel)
set_option maxRecDepth 20000 in
theorem gX8_card_X8_begins : GoodIn wsX8_card (wsV RX8 91 RX8 yX8_begins wsX8_begins) := goodIn_app (goodIn_of _ (by decide +kernel)) ggX8_card_X8_begins
set_option maxRecDepth 20000 in
theorem ggX8_card_X8_comes : GoodIn wsX8_card wsX8_comes := goodIn_r _ [11, 7, 12, 13, 14, 15, 4, 16, 17, 18, 19, 20, 21, 22, 23, 34, 35, 36, 37, 38, 39, 40, 41, 42, 43, 44, 45, 46, 47, 48, 49, 50, 51] (by decide +kernel) (by decide +kernel)
set_option maxRecDepth 20000 in
theorem gX8_card_X8_comes : GoodIn wsX8_card (wsV RX8 94 RX8 yX8_comes wsX8_comes) := goodIn_app (goodIn_of _ (by decide +kernel)) ggX8_card_X8_comes
set_option maxRecDepth 20000 in
theorem ggX8_card_X8_acted : GoodIn wsX8_card wsX8_acted := goodIn_r _ [27, 12, 28, 29, 6, 30, 31, 32, 4, 33, 7, 34, 35, 36, 37, 38, 39, 40, 41, 42, 43, 44, 45, 46, 47, 48, 49, 50, 51] (by decide +kernel) (by decide +kernel)
set_option maxRecDepth 20000 in
theorem gX8_card_X8_acted : GoodIn wsX8_card (wsV RX8 98 RX8 yX8_acted wsX8_acted) := goodIn_app (goodIn_of _ (by decide +kernel)) ggX8_card_X8_acted
theorem dX8_card_0 : decode cX8_card 0 = .ok (.aload_n 0, 1) := by decide +kernel
theorem dX8_card_1 : decode cX8_card 1 = .ok (.invokevirtual 91, 3) := by decide +kernel
theorem dX8_card_4 : decode cX8_card 4 = .ok (.aload_n 0, 1) := by decide +kernel
theorem dX8_card_5 : decode cX8_card 5 = .ok (.aload_n 0, 1) := by decide +kernel
theorem dX8_card_6 : decode cX8_card 6 = .ok (.iload_n 1, 1) := by decide +kernel
theorem dX8_card_7 : decode cX8_card 7 = .ok (.iload_n 2, 1) := by decide +kernel
theorem dX8_card_8 : decode cX8_card 8 = .ok (.iload_n 3, 1) := by decide +kernel
theorem dX8_card_9 : decode cX8_card 9 = .ok (.iload 4, 2) := by decide +kernel
theorem dX8_card_11 : decode cX8_card 11 = .ok (.iload 5, 2) := by decide +kernel
theorem dX8_card_13 : decode cX8_card 13 = .ok (.iload 6, 2) := by decide +kernel
theorem dX8_card_15 : decode cX8_card 15 = .ok (.invokevirtual 94, 3) := by decide +kernel
theorem dX8_card_18 : decode cX8_card 18 = .ok (.invokevirtual 98, 3) := by decide +kernel
theorem dX8_card_21 : decode cX8_card 21 = .ok (.ireturn, 1) := by decide +kernel
set_option maxRecDepth 20000 in
theorem ggX8_weather_X8_begins : GoodIn wsX8_weather wsX8_begins := goodIn_r _ [5, 6, 7, 48, 49, 50, 51, 52, 53, 54, 55, 56, 57, 58, 59, 60, 61, 62, 63, 64, 65] (by decide +kernel) (by decide +kernel)
set_option maxRecDepth 20000 in
theorem gX8_weather_X8_begins : GoodIn wsX8_weather (wsV RX8 91 RX8 yX8_begins wsX8_begins) := goodIn_app (goodIn_of _ (by decide +kernel)) ggX8_weather_X8_begins
set_option maxRecDepth 20000 in
theorem ggX8_weather_X8_tells : GoodIn wsX8_weather wsX8_tells := goodIn_r _ [11, 12, 7, 13, 14, 4, 15, 16, 17, 18, 19, 20, 21, 22, 23, 24, 25, 26, 27, 28, 29, 30, 31, 32, 33, 34, 35, 36, 37, 48, 49, 50, 51, 52, 53, 54, 55, 56, 57, 58, 59, 60, 61, 62, 63, 64, 65] (by decide +kernel) (by decide +kernel)
set_option maxRecDepth 20000 in
theorem gX8_weather_X8_tells : GoodIn wsX8_weather (wsV RX8 101 RX8 yX8_tells wsX8_tells) := goodIn_app (goodIn_of _ (by decide +kernel)) ggX8_weather_X8_tells
set_option maxRecDepth 20000 in
theorem ggX8_weather_X8_acted : GoodIn wsX8_weather wsX8_acted := goodIn_r _ [41, 12, 42, 43, 6, 44, 45, 46, 4, 47, 7, 48, 49, 50, 51, 52, 53, 54, 55, 56, 57, 58, 59, 60, 61, 62, 63, 64, 65] (by decide +kernel) (by decide +kernel)
set_option maxRecDepth 20000 in
theorem gX8_weather_X8_acted : GoodIn wsX8_weather (wsV RX8 98 RX8 yX8_acted wsX8_acted) := goodIn_app (goodIn_of _ (by decide +kernel)) ggX8_weather_X8_acted
theorem dX8_weather_0 : decode cX8_weather 0 = .ok (.aload_n 0, 1) := by decide +kernel
theorem dX8_weather_1 : decode cX8_weather 1 = .ok (.invokevirtual 91, 3) := by decide +kernel
theorem dX8_weather_4 : decode cX8_weather 4 = .ok (.aload_n 0, 1) := by decide +kernel
theorem dX8_weather_5 : decode cX8_weather 5 = .ok (.aload_n 0, 1) := by decide +kernel
theorem dX8_weather_6 : decode cX8_weather 6 = .ok (.iload_n 1, 1) := by decide +kernel
theorem dX8_weather_7 : decode cX8_weather 7 = .ok (.iload_n 2, 1) := by decide +kernel
theorem dX8_weather_8 : decode cX8_weather 8 = .ok (.iload_n 3, 1) := by decide +kernel
theorem dX8_weather_9 : decode cX8_weather 9 = .ok (.iload 4, 2) := by decide +kernel
theorem dX8_weather_11 : decode cX8_weather 11 = .ok (.invokevirtual 101, 3) := by decide +kernel
theorem dX8_weather_14 : decode cX8_weather 14 = .ok (.invokevirtual 98, 3) := by decide +kernel
theorem dX8_weather_17 : decode cX8_weather 17 = .ok (.ireturn, 1) := by decide +kernel
set_option maxRecDepth 20000 in
theorem ggX8_fly_X8_begins : GoodIn wsX8_fly wsX8_begins := goodIn_r _ [5, 6, 7, 59, 60, 61, 62, 63, 64, 65, 66, 67, 68, 69, 70, 71, 72, 73, 74, 75, 76] (by decide +kernel) (by decide +kernel)
set_option maxRecDepth 20000 in
theorem gX8_fly_X8_begins : GoodIn wsX8_fly (wsV RX8 91 RX8 yX8_begins wsX8_begins) := goodIn_app (goodIn_of _ (by decide +kernel)) ggX8_fly_X8_begins
set_option maxRecDepth 20000 in
theorem ggX8_fly_X8_flies : GoodIn wsX8_fly wsX8_flies := goodIn_r _ [11, 12, 13, 7, 14, 15, 16, 4, 17, 18, 19, 20, 21, 22, 23, 24, 25, 26, 27, 28, 29, 30, 31, 32, 33, 34, 35, 36, 37, 38, 39, 40, 41, 42, 43, 44, 45, 46, 47, 48, 59, 60, 61, 62, 63, 64, 65, 66, 67, 68, 69, 70, 71, 72, 73, 74, 75, 76] (by decide +kernel) (by decide +kernel)
set_option maxRecDepth 20000 in
theorem gX8_fly_X8_flies : GoodIn wsX8_fly (wsV RX8 105 RX8 yX8_flies wsX8_flies) := goodIn_app (goodIn_of _ (by decide +kernel)) ggX8_fly_X8_flies
set_option maxRecDepth 20000 in
theorem ggX8_fly_X8_acted : GoodIn wsX8_fly wsX8_acted := goodIn_r _ [52, 12, 53, 54, 6, 55, 56, 57, 4, 58, 7, 59, 60, 61, 62, 63, 64, 65, 66, 67, 68, 69, 70, 71, 72, 73, 74, 75, 76] (by decide +kernel) (by decide +kernel)
set_option maxRecDepth 20000 in
theorem gX8_fly_X8_acted : GoodIn wsX8_fly (wsV RX8 98 RX8 yX8_acted wsX8_acted) := goodIn_app (goodIn_of _ (by decide +kernel)) ggX8_fly_X8_acted
theorem dX8_fly_0 : decode cX8_fly 0 = .ok (.aload_n 0, 1) := by decide +kernel
theorem dX8_fly_1 : decode cX8_fly 1 = .ok (.invokevirtual 91, 3) := by decide +kernel
theorem dX8_fly_4 : decode cX8_fly 4 = .ok (.aload_n 0, 1) := by decide +kernel
theorem dX8_fly_5 : decode cX8_fly 5 = .ok (.aload_n 0, 1) := by decide +kernel
theorem dX8_fly_6 : decode cX8_fly 6 = .ok (.iload_n 1, 1) := by decide +kernel
theorem dX8_fly_7 : decode cX8_fly 7 = .ok (.iload_n 2, 1) := by decide +kernel
theorem dX8_fly_8 : decode cX8_fly 8 = .ok (.invokevirtual 105, 3) := by decide +kernel
theorem dX8_fly_11 : decode cX8_fly 11 = .ok (.invokevirtual 98, 3) := by decide +kernel
theorem dX8_fly_14 : decode cX8_fly 14 = .ok (.ireturn, 1) := by decide +kernel
set_option maxRecDepth 20000 in
theorem ggX8_waive_X8_begins : GoodIn wsX8_waive wsX8_begins := goodIn_r _ [7, 8, 9, 39, 40, 41, 42, 43, 44, 45, 46, 47, 48, 49, 50, 51, 52, 53, 54, 55, 56] (by decide +kernel) (by decide +kernel)
set_option maxRecDepth 20000 in
theorem gX8_waive_X8_begins : GoodIn wsX8_waive (wsV RX8 91 RX8 yX8_begins wsX8_begins) := goodIn_app (goodIn_of _ (by decide +kernel)) ggX8_waive_X8_begins
set_option maxRecDepth 20000 in
theorem ggX8_waive_X8_isCard : GoodIn wsX8_waive wsX8_isCard := goodIn_r _ [13, 9, 14, 15, 6, 16, 39, 40, 41, 42, 43, 44, 45, 46, 47, 48, 49, 50, 51, 52, 53, 54, 55, 56] (by decide +kernel) (by decide +kernel)
set_option maxRecDepth 20000 in
theorem gX8_waive_X8_isCard : GoodIn wsX8_waive (wsV RX8 57 RX8 yX8_isCard wsX8_isCard) := goodIn_app (goodIn_of _ (by decide +kernel)) ggX8_waive_X8_isCard
set_option maxRecDepth 20000 in
theorem ggX8_waive_X8_isDone : GoodIn wsX8_waive wsX8_isDone := goodIn_r _ [20, 21, 22, 23, 6, 24, 9, 39, 40, 41, 42, 43, 44, 45, 46, 47, 48, 49, 50, 51, 52, 53, 54, 55, 56] (by decide +kernel) (by decide +kernel)
set_option maxRecDepth 20000 in
theorem gX8_waive_X8_isDone : GoodIn wsX8_waive (wsV RX8 53 RX8 yX8_isDone wsX8_isDone) := goodIn_app (goodIn_of _ (by decide +kernel)) ggX8_waive_X8_isDone
set_option maxRecDepth 20000 in
theorem ggX8_waive_X8_of : GoodIn wsX8_waive wsX8_of := goodIn_r _ [24, 9, 39, 40, 41, 42, 43, 44, 45, 46, 47, 48, 49, 50, 51, 52, 53, 54, 55, 56] (by decide +kernel) (by decide +kernel)
set_option maxRecDepth 20000 in
theorem gX8_waive_X8_of : GoodIn wsX8_waive (wsV RX8 43 RX8 yX8_of wsX8_of) := goodIn_app (goodIn_of _ (by decide +kernel)) ggX8_waive_X8_of
set_option maxRecDepth 20000 in
theorem ggX8_waive_X8_lays : GoodIn wsX8_waive wsX8_lays := goodIn_r _ [28, 9, 39, 40, 41, 42, 43, 44, 45, 46, 47, 48, 49, 50, 51, 52, 53, 54, 55, 56] (by decide +kernel) (by decide +kernel)
set_option maxRecDepth 20000 in
theorem gX8_waive_X8_lays : GoodIn wsX8_waive (wsV RX8 68 RX8 yX8_lays wsX8_lays) := goodIn_app (goodIn_of _ (by decide +kernel)) ggX8_waive_X8_lays
set_option maxRecDepth 20000 in
theorem ggX8_waive_X8_acted : GoodIn wsX8_waive wsX8_acted := goodIn_r _ [32, 1, 33, 34, 8, 35, 36, 37, 6, 38, 9, 39, 40, 41, 42, 43, 44, 45, 46, 47, 48, 49, 50, 51, 52, 53, 54, 55, 56] (by decide +kernel) (by decide +kernel)
set_option maxRecDepth 20000 in
theorem gX8_waive_X8_acted : GoodIn wsX8_waive (wsV RX8 98 RX8 yX8_acted wsX8_acted) := goodIn_app (goodIn_of _ (by decide +kernel)) ggX8_waive_X8_acted
theorem dX8_waive_0 : decode cX8_waive 0 = .ok (.aload_n 0, 1) := by decide +kernel
theorem dX8_waive_1 : decode cX8_waive 1 = .ok (.invokevirtual 91, 3) := by decide +kernel
theorem dX8_waive_4 : decode cX8_waive 4 = .ok (.aload_n 0, 1) := by decide +kernel
theorem dX8_waive_5 : decode cX8_waive 5 = .ok (.iload_n 1, 1) := by decide +kernel
theorem dX8_waive_6 : decode cX8_waive 6 = .ok (.invokevirtual 57, 3) := by decide +kernel
theorem dX8_waive_9 : decode cX8_waive 9 = .ok (.ifCond .ne 6, 3) := by decide +kernel
theorem dX8_waive_12 : decode cX8_waive 12 = .ok (.ldc 35, 2) := by decide +kernel
theorem dX8_waive_14 : decode cX8_waive 14 = .ok (.ireturn, 1) := by decide +kernel
theorem dX8_waive_15 : decode cX8_waive 15 = .ok (.aload_n 0, 1) := by decide +kernel
theorem dX8_waive_16 : decode cX8_waive 16 = .ok (.iload_n 1, 1) := by decide +kernel
theorem dX8_waive_17 : decode cX8_waive 17 = .ok (.invokevirtual 53, 3) := by decide +kernel
theorem dX8_waive_20 : decode cX8_waive 20 = .ok (.ifCond .eq 6, 3) := by decide +kernel
theorem dX8_waive_23 : decode cX8_waive 23 = .ok (.ldc 63, 2) := by decide +kernel
theorem dX8_waive_25 : decode cX8_waive 25 = .ok (.ireturn, 1) := by decide +kernel
theorem dX8_waive_26 : decode cX8_waive 26 = .ok (.aload_n 0, 1) := by decide +kernel
theorem dX8_waive_27 : decode cX8_waive 27 = .ok (.iload_n 1, 1) := by decide +kernel
theorem dX8_waive_28 : decode cX8_waive 28 = .ok (.bipush 6, 2) := by decide +kernel
theorem dX8_waive_30 : decode cX8_waive 30 = .ok (.invokevirtual 43, 3) := by decide +kernel
theorem dX8_waive_33 : decode cX8_waive 33 = .ok (.istore_n 2, 1) := by decide +kernel
theorem dX8_waive_34 : decode cX8_waive 34 = .ok (.aload_n 0, 1) := by decide +kernel
theorem dX8_waive_35 : decode cX8_waive 35 = .ok (.iload_n 1, 1) := by decide +kernel
theorem dX8_waive_36 : decode cX8_waive 36 = .ok (.bipush 6, 2) := by decide +kernel
theorem dX8_waive_38 : decode cX8_waive 38 = .ok (.iconst 3, 1) := by decide +kernel
theorem dX8_waive_39 : decode cX8_waive 39 = .ok (.invokevirtual 68, 3) := by decide +kernel
theorem dX8_waive_42 : decode cX8_waive 42 = .ok (.aload_n 0, 1) := by decide +kernel
theorem dX8_waive_43 : decode cX8_waive 43 = .ok (.iload_n 2, 1) := by decide +kernel
theorem dX8_waive_44 : decode cX8_waive 44 = .ok (.invokevirtual 98, 3) := by decide +kernel
theorem dX8_waive_47 : decode cX8_waive 47 = .ok (.ireturn, 1) := by decide +kernel
set_option maxRecDepth 20000 in
theorem ggX8_reopen_X8_begins : GoodIn wsX8_reopen wsX8_begins := goodIn_r _ [7, 8, 9, 47, 48, 49, 50, 51, 52, 53, 54, 55, 56, 57, 58, 59, 60, 61, 62, 63, 64] (by decide +kernel) (by decide +kernel)
set_option maxRecDepth 20000 in
theorem gX8_reopen_X8_begins : GoodIn wsX8_reopen (wsV RX8 91 RX8 yX8_begins wsX8_begins) := goodIn_app (goodIn_of _ (by decide +kernel)) ggX8_reopen_X8_begins
set_option maxRecDepth 20000 in
theorem ggX8_reopen_X8_isCard : GoodIn wsX8_reopen wsX8_isCard := goodIn_r _ [13, 9, 14, 15, 6, 16, 47, 48, 49, 50, 51, 52, 53, 54, 55, 56, 57, 58, 59, 60, 61, 62, 63, 64] (by decide +kernel) (by decide +kernel)
set_option maxRecDepth 20000 in
theorem gX8_reopen_X8_isCard : GoodIn wsX8_reopen (wsV RX8 57 RX8 yX8_isCard wsX8_isCard) := goodIn_app (goodIn_of _ (by decide +kernel)) ggX8_reopen_X8_isCard
set_option maxRecDepth 20000 in
theorem ggX8_reopen_X8_isDone : GoodIn wsX8_reopen wsX8_isDone := goodIn_r _ [20, 21, 22, 23, 6, 24, 9, 47, 48, 49, 50, 51, 52, 53, 54, 55, 56, 57, 58, 59, 60, 61, 62, 63, 64] (by decide +kernel) (by decide +kernel)
set_option maxRecDepth 20000 in
theorem gX8_reopen_X8_isDone : GoodIn wsX8_reopen (wsV RX8 53 RX8 yX8_isDone wsX8_isDone) := goodIn_app (goodIn_of _ (by decide +kernel)) ggX8_reopen_X8_isDone
set_option maxRecDepth 20000 in
theorem ggX8_reopen_X8_opens : GoodIn wsX8_reopen wsX8_opens := goodIn_r _ [28, 9, 29, 30, 31, 6, 32, 21, 22, 23, 24, 33, 34, 35, 36, 47, 48, 49, 50, 51, 52, 53, 54, 55, 56, 57, 58, 59, 60, 61, 62, 63, 64] (by decide +kernel) (by decide +kernel)
set_option maxRecDepth 20000 in
theorem gX8_reopen_X8_opens : GoodIn wsX8_reopen (wsV RX8 108 RX8 yX8_opens wsX8_opens) := goodIn_app (goodIn_of _ (by decide +kernel)) ggX8_reopen_X8_opens
set_option maxRecDepth 20000 in
theorem ggX8_reopen_X8_acted : GoodIn wsX8_reopen wsX8_acted := goodIn_r _ [40, 1, 41, 42, 8, 43, 44, 45, 6, 46, 9, 47, 48, 49, 50, 51, 52, 53, 54, 55, 56, 57, 58, 59, 60, 61, 62, 63, 64] (by decide +kernel) (by decide +kernel)
set_option maxRecDepth 20000 in
theorem gX8_reopen_X8_acted : GoodIn wsX8_reopen (wsV RX8 98 RX8 yX8_acted wsX8_acted) := goodIn_app (goodIn_of _ (by decide +kernel)) ggX8_reopen_X8_acted
theorem dX8_reopen_0 : decode cX8_reopen 0 = .ok (.aload_n 0, 1) := by decide +kernel
theorem dX8_reopen_1 : decode cX8_reopen 1 = .ok (.invokevirtual 91, 3) := by decide +kernel
theorem dX8_reopen_4 : decode cX8_reopen 4 = .ok (.aload_n 0, 1) := by decide +kernel
theorem dX8_reopen_5 : decode cX8_reopen 5 = .ok (.iload_n 1, 1) := by decide +kernel
theorem dX8_reopen_6 : decode cX8_reopen 6 = .ok (.invokevirtual 57, 3) := by decide +kernel
theorem dX8_reopen_9 : decode cX8_reopen 9 = .ok (.ifCond .ne 6, 3) := by decide +kernel
theorem dX8_reopen_12 : decode cX8_reopen 12 = .ok (.ldc 35, 2) := by decide +kernel
theorem dX8_reopen_14 : decode cX8_reopen 14 = .ok (.ireturn, 1) := by decide +kernel
theorem dX8_reopen_15 : decode cX8_reopen 15 = .ok (.aload_n 0, 1) := by decide +kernel
theorem dX8_reopen_16 : decode cX8_reopen 16 = .ok (.aload_n 0, 1) := by decide +kernel
theorem dX8_reopen_17 : decode cX8_reopen 17 = .ok (.iload_n 1, 1) := by decide +kernel
theorem dX8_reopen_18 : decode cX8_reopen 18 = .ok (.invokevirtual 53, 3) := by decide +kernel
theorem dX8_reopen_21 : decode cX8_reopen 21 = .ok (.ifCond .eq 11, 3) := by decide +kernel
theorem dX8_reopen_24 : decode cX8_reopen 24 = .ok (.aload_n 0, 1) := by decide +kernel
theorem dX8_reopen_25 : decode cX8_reopen 25 = .ok (.iload_n 1, 1) := by decide +kernel
theorem dX8_reopen_26 : decode cX8_reopen 26 = .ok (.invokevirtual 108, 3) := by decide +kernel
theorem dX8_reopen_29 : decode cX8_reopen 29 = .ok (.goto 5, 3) := by decide +kernel
theorem dX8_reopen_32 : decode cX8_reopen 32 = .ok (.ldc 63, 2) := by decide +kernel
theorem dX8_reopen_34 : decode cX8_reopen 34 = .ok (.invokevirtual 98, 3) := by decide +kernel
theorem dX8_reopen_37 : decode cX8_reopen 37 = .ok (.ireturn, 1) := by decide +kernel
set_option maxRecDepth 20000 in
theorem ggX8_pass_X8_begins : GoodIn wsX8_pass wsX8_begins := goodIn_r _ [5, 6, 7, 31, 32, 33, 34, 35, 36, 37, 38, 39, 40, 41, 42, 43, 44, 45, 46, 47, 48] (by decide +kernel) (by decide +kernel)
set_option maxRecDepth 20000 in
theorem gX8_pass_X8_begins : GoodIn wsX8_pass (wsV RX8 91 RX8 yX8_begins wsX8_begins) := goodIn_app (goodIn_of _ (by decide +kernel)) ggX8_pass_X8_begins
set_option maxRecDepth 20000 in
theorem ggX8_pass_X8_passes : GoodIn wsX8_pass wsX8_passes := goodIn_r _ [11, 12, 7, 13, 14, 15, 4, 16, 17, 18, 19, 20, 31, 32, 33, 34, 35, 36, 37, 38, 39, 40, 41, 42, 43, 44, 45, 46, 47, 48] (by decide +kernel) (by decide +kernel)
set_option maxRecDepth 20000 in
theorem gX8_pass_X8_passes : GoodIn wsX8_pass (wsV RX8 111 RX8 yX8_passes wsX8_passes) := goodIn_app (goodIn_of _ (by decide +kernel)) ggX8_pass_X8_passes
set_option maxRecDepth 20000 in
theorem ggX8_pass_X8_acted : GoodIn wsX8_pass wsX8_acted := goodIn_r _ [24, 12, 25, 26, 6, 27, 28, 29, 4, 30, 7, 31, 32, 33, 34, 35, 36, 37, 38, 39, 40, 41, 42, 43, 44, 45, 46, 47, 48] (by decide +kernel) (by decide +kernel)
set_option maxRecDepth 20000 in
theorem gX8_pass_X8_acted : GoodIn wsX8_pass (wsV RX8 98 RX8 yX8_acted wsX8_acted) := goodIn_app (goodIn_of _ (by decide +kernel)) ggX8_pass_X8_acted
theorem dX8_pass_0 : decode cX8_pass 0 = .ok (.aload_n 0, 1) := by decide +kernel
theorem dX8_pass_1 : decode cX8_pass 1 = .ok (.invokevirtual 91, 3) := by decide +kernel
theorem dX8_pass_4 : decode cX8_pass 4 = .ok (.aload_n 0, 1) := by decide +kernel
theorem dX8_pass_5 : decode cX8_pass 5 = .ok (.aload_n 0, 1) := by decide +kernel
theorem dX8_pass_6 : decode cX8_pass 6 = .ok (.iload_n 1, 1) := by decide +kernel
theorem dX8_pass_7 : decode cX8_pass 7 = .ok (.invokevirtual 111, 3) := by decide +kernel
theorem dX8_pass_10 : decode cX8_pass 10 = .ok (.invokevirtual 98, 3) := by decide +kernel
theorem dX8_pass_13 : decode cX8_pass 13 = .ok (.ireturn, 1) := by decide +kernel
set_option maxRecDepth 20000 in
theorem ggX8_set_X8_begins : GoodIn wsX8_set wsX8_begins := goodIn_r _ [7, 8, 2, 22, 23, 24, 25, 26, 27, 28, 29, 30, 31, 32, 33, 34, 35, 36, 37, 38, 39] (by decide +kernel) (by decide +kernel)
set_option maxRecDepth 20000 in
theorem gX8_set_X8_begins : GoodIn wsX8_set (wsV RX8 91 RX8 yX8_begins wsX8_begins) := goodIn_app (goodIn_of _ (by decide +kernel)) ggX8_set_X8_begins
set_option maxRecDepth 20000 in
theorem ggX8_set_X8_in : GoodIn wsX8_set wsX8_in := goodIn_r _ [11] (by decide +kernel) (by decide +kernel)
set_option maxRecDepth 20000 in
theorem gX8_set_X8_in : GoodIn wsX8_set (va_wsS RX8 31 yX8_in wsX8_in) := goodIn_app (goodIn_of _ (by decide +kernel)) ggX8_set_X8_in
set_option maxRecDepth 20000 in
theorem ggX8_set_X8_acted : GoodIn wsX8_set wsX8_acted := goodIn_r _ [15, 1, 16, 17, 8, 18, 19, 20, 6, 21, 2, 22, 23, 24, 25, 26, 27, 28, 29, 30, 31, 32, 33, 34, 35, 36, 37, 38, 39] (by decide +kernel) (by decide +kernel)
set_option maxRecDepth 20000 in
theorem gX8_set_X8_acted : GoodIn wsX8_set (wsV RX8 98 RX8 yX8_acted wsX8_acted) := goodIn_app (goodIn_of _ (by decide +kernel)) ggX8_set_X8_acted
theorem dX8_set_0 : decode cX8_set 0 = .ok (.aload_n 0, 1) := by decide +kernel
theorem dX8_set_1 : decode cX8_set 1 = .ok (.invokevirtual 91, 3) := by decide +kernel
theorem dX8_set_4 : decode cX8_set 4 = .ok (.iload_n 1, 1) := by decide +kernel
theorem dX8_set_5 : decode cX8_set 5 = .ok (.ifCond .ne 7, 3) := by decide +kernel
theorem dX8_set_8 : decode cX8_set 8 = .ok (.iconst 0, 1) := by decide +kernel
theorem dX8_set_9 : decode cX8_set 9 = .ok (.goto 4, 3) := by decide +kernel
theorem dX8_set_12 : decode cX8_set 12 = .ok (.iconst 1, 1) := by decide +kernel
theorem dX8_set_13 : decode cX8_set 13 = .ok (.istore_n 3, 1) := by decide +kernel
theorem dX8_set_14 : decode cX8_set 14 = .ok (.iload_n 1, 1) := by decide +kernel
theorem dX8_set_15 : decode cX8_set 15 = .ok (.iconst 0, 1) := by decide +kernel
theorem dX8_set_16 : decode cX8_set 16 = .ok (.iconst 2, 1) := by decide +kernel
theorem dX8_set_17 : decode cX8_set 17 = .ok (.invokestatic 31, 3) := by decide +kernel
theorem dX8_set_20 : decode cX8_set 20 = .ok (.ifCond .eq 23, 3) := by decide +kernel
theorem dX8_set_23 : decode cX8_set 23 = .ok (.iload_n 2, 1) := by decide +kernel
theorem dX8_set_24 : decode cX8_set 24 = .ok (.iload_n 3, 1) := by decide +kernel
theorem dX8_set_25 : decode cX8_set 25 = .ok (.iload_n 1, 1) := by decide +kernel
theorem dX8_set_26 : decode cX8_set 26 = .ok (.iconst 2, 1) := by decide +kernel
theorem dX8_set_27 : decode cX8_set 27 = .ok (.if_icmp .ne 8, 3) := by decide +kernel
theorem dX8_set_30 : decode cX8_set 30 = .ok (.bipush 99, 2) := by decide +kernel
theorem dX8_set_32 : decode cX8_set 32 = .ok (.goto 5, 3) := by decide +kernel
theorem dX8_set_35 : decode cX8_set 35 = .ok (.bipush 9, 2) := by decide +kernel
theorem dX8_set_37 : decode cX8_set 37 = .ok (.invokestatic 31, 3) := by decide +kernel
theorem dX8_set_40 : decode cX8_set 40 = .ok (.ifCond .ne 6, 3) := by decide +kernel
theorem dX8_set_43 : decode cX8_set 43 = .ok (.ldc 35, 2) := by decide +kernel
theorem dX8_set_45 : decode cX8_set 45 = .ok (.ireturn, 1) := by decide +kernel
theorem dX8_set_46 : decode cX8_set 46 = .ok (.aload_n 0, 1) := by decide +kernel
theorem dX8_set_47 : decode cX8_set 47 = .ok (.getfield 7, 3) := by decide +kernel
theorem dX8_set_50 : decode cX8_set 50 = .ok (.bipush 8, 2) := by decide +kernel
theorem dX8_set_52 : decode cX8_set 52 = .ok (.iload_n 1, 1) := by decide +kernel
theorem dX8_set_53 : decode cX8_set 53 = .ok (.iadd, 1) := by decide +kernel
theorem dX8_set_54 : decode cX8_set 54 = .ok (.iaload, 1) := by decide +kernel
theorem dX8_set_55 : decode cX8_set 55 = .ok (.istore 4, 2) := by decide +kernel
theorem dX8_set_57 : decode cX8_set 57 = .ok (.aload_n 0, 1) := by decide +kernel
theorem dX8_set_58 : decode cX8_set 58 = .ok (.getfield 7, 3) := by decide +kernel
theorem dX8_set_61 : decode cX8_set 61 = .ok (.bipush 8, 2) := by decide +kernel
theorem dX8_set_63 : decode cX8_set 63 = .ok (.iload_n 1, 1) := by decide +kernel
theorem dX8_set_64 : decode cX8_set 64 = .ok (.iadd, 1) := by decide +kernel
theorem dX8_set_65 : decode cX8_set 65 = .ok (.iload_n 2, 1) := by decide +kernel
theorem dX8_set_66 : decode cX8_set 66 = .ok (.iastore, 1) := by decide +kernel
theorem dX8_set_67 : decode cX8_set 67 = .ok (.aload_n 0, 1) := by decide +kernel
theorem dX8_set_68 : decode cX8_set 68 = .ok (.iload 4, 2) := by decide +kernel
theorem dX8_set_70 : decode cX8_set 70 = .ok (.invokevirtual 98, 3) := by decide +kernel
theorem dX8_set_73 : decode cX8_set 73 = .ok (.ireturn, 1) := by decide +kernel
set_option maxRecDepth 20000 in
theorem ggX8_why_X8_isCard : GoodIn wsX8_why wsX8_isCard := goodIn_r _ [6, 7, 8, 9, 5, 10, 34, 35, 36, 37, 38, 39, 40, 41, 42, 43, 44, 45, 46, 47, 48, 49, 50, 51] (by decide +kernel) (by decide +kernel)
set_option maxRecDepth 20000 in
theorem gX8_why_X8_isCard : GoodIn wsX8_why (wsV RX8 57 RX8 yX8_isCard wsX8_isCard) := goodIn_app (goodIn_of _ (by decide +kernel)) ggX8_why_X8_isCard
set_option maxRecDepth 20000 in
theorem ggX8_why_X8_isLimit : GoodIn wsX8_why wsX8_isLimit := goodIn_r _ [13, 8, 9, 5, 10] (by decide +kernel) (by decide +kernel)
set_option maxRecDepth 20000 in
theorem gX8_why_X8_isLimit : GoodIn wsX8_why (va_wsS RX8 77 yX8_isLimit wsX8_isLimit) := goodIn_app (goodIn_of _ (by decide +kernel)) ggX8_why_X8_isLimit
set_option maxRecDepth 20000 in
theorem ggX8_why_X8_reason : GoodIn wsX8_why wsX8_reason := goodIn_r _ [17, 7, 18, 19, 20, 5, 21, 22, 23, 24, 25, 26, 27, 28, 29, 30, 31, 32, 33, 34, 35, 36, 37, 38, 39, 40, 41, 42, 43, 44, 45, 46, 47, 48, 49, 50, 51] (by decide +kernel) (by decide +kernel)
set_option maxRecDepth 20000 in
theorem gX8_why_X8_reason : GoodIn wsX8_why (wsV RX8 60 RX8 yX8_reason wsX8_reason) := goodIn_app (goodIn_of _ (by decide +kernel)) ggX8_why_X8_reason
theorem dX8_why_0 : decode cX8_why 0 = .ok (.aload_n 0, 1) := by decide +kernel
theorem dX8_why_1 : decode cX8_why 1 = .ok (.iload_n 1, 1) := by decide +kernel
theorem dX8_why_2 : decode cX8_why 2 = .ok (.invokevirtual 57, 3) := by decide +kernel
theorem dX8_why_5 : decode cX8_why 5 = .ok (.ifCond .eq 19, 3) := by decide +kernel
theorem dX8_why_8 : decode cX8_why 8 = .ok (.iload_n 2, 1) := by decide +kernel
theorem dX8_why_9 : decode cX8_why 9 = .ok (.invokestatic 77, 3) := by decide +kernel
theorem dX8_why_12 : decode cX8_why 12 = .ok (.ifCond .eq 12, 3) := by decide +kernel
theorem dX8_why_15 : decode cX8_why 15 = .ok (.aload_n 0, 1) := by decide +kernel
theorem dX8_why_16 : decode cX8_why 16 = .ok (.iload_n 1, 1) := by decide +kernel
theorem dX8_why_17 : decode cX8_why 17 = .ok (.iload_n 2, 1) := by decide +kernel
theorem dX8_why_18 : decode cX8_why 18 = .ok (.invokevirtual 60, 3) := by decide +kernel
theorem dX8_why_21 : decode cX8_why 21 = .ok (.goto 5, 3) := by decide +kernel
theorem dX8_why_24 : decode cX8_why 24 = .ok (.ldc 35, 2) := by decide +kernel
theorem dX8_why_26 : decode cX8_why 26 = .ok (.ireturn, 1) := by decide +kernel
set_option maxRecDepth 20000 in
theorem ggX8_manyBehind_X8_isBehind : GoodIn wsX8_manyBehind wsX8_isBehind := goodIn_r _ [6, 7, 8, 9, 5, 10, 1, 11, 12, 13, 14, 15, 16, 17, 18, 19, 20, 21, 22, 23, 24, 25, 26, 27, 28] (by decide +kernel) (by decide +kernel)
set_option maxRecDepth 20000 in
theorem gX8_manyBehind_X8_isBehind : GoodIn wsX8_manyBehind (wsV RX8 87 RX8 yX8_isBehind wsX8_isBehind) := goodIn_app (goodIn_of _ (by decide +kernel)) ggX8_manyBehind_X8_isBehind
theorem dX8_manyBehind_0 : decode cX8_manyBehind 0 = .ok (.iconst 0, 1) := by decide +kernel
theorem dX8_manyBehind_1 : decode cX8_manyBehind 1 = .ok (.istore_n 2, 1) := by decide +kernel
theorem dX8_manyBehind_2 : decode cX8_manyBehind 2 = .ok (.iconst 0, 1) := by decide +kernel
theorem dX8_manyBehind_3 : decode cX8_manyBehind 3 = .ok (.istore_n 3, 1) := by decide +kernel
theorem dX8_manyBehind_4 : decode cX8_manyBehind 4 = .ok (.iload_n 3, 1) := by decide +kernel
theorem dX8_manyBehind_5 : decode cX8_manyBehind 5 = .ok (.aload_n 0, 1) := by decide +kernel
theorem dX8_manyBehind_6 : decode cX8_manyBehind 6 = .ok (.getfield 7, 3) := by decide +kernel
theorem dX8_manyBehind_9 : decode cX8_manyBehind 9 = .ok (.iconst 0, 1) := by decide +kernel
theorem dX8_manyBehind_10 : decode cX8_manyBehind 10 = .ok (.iaload, 1) := by decide +kernel
theorem dX8_manyBehind_11 : decode cX8_manyBehind 11 = .ok (.if_icmp .ge 26, 3) := by decide +kernel
theorem dX8_manyBehind_14 : decode cX8_manyBehind 14 = .ok (.iload_n 2, 1) := by decide +kernel
theorem dX8_manyBehind_15 : decode cX8_manyBehind 15 = .ok (.aload_n 0, 1) := by decide +kernel
theorem dX8_manyBehind_16 : decode cX8_manyBehind 16 = .ok (.iload_n 3, 1) := by decide +kernel
theorem dX8_manyBehind_17 : decode cX8_manyBehind 17 = .ok (.iload_n 1, 1) := by decide +kernel
theorem dX8_manyBehind_18 : decode cX8_manyBehind 18 = .ok (.invokevirtual 87, 3) := by decide +kernel
theorem dX8_manyBehind_21 : decode cX8_manyBehind 21 = .ok (.ifCond .eq 7, 3) := by decide +kernel
theorem dX8_manyBehind_24 : decode cX8_manyBehind 24 = .ok (.iconst 1, 1) := by decide +kernel
theorem dX8_manyBehind_25 : decode cX8_manyBehind 25 = .ok (.goto 4, 3) := by decide +kernel
theorem dX8_manyBehind_28 : decode cX8_manyBehind 28 = .ok (.iconst 0, 1) := by decide +kernel
theorem dX8_manyBehind_29 : decode cX8_manyBehind 29 = .ok (.iadd, 1) := by decide +kernel
theorem dX8_manyBehind_30 : decode cX8_manyBehind 30 = .ok (.istore_n 2, 1) := by decide +kernel
theorem dX8_manyBehind_31 : decode cX8_manyBehind 31 = .ok (.iinc 3 1, 3) := by decide +kernel
theorem dX8_manyBehind_34 : decode cX8_manyBehind 34 = .ok (.goto (-30), 3) := by decide +kernel
theorem dX8_manyBehind_37 : decode cX8_manyBehind 37 = .ok (.iload_n 2, 1) := by decide +kernel
theorem dX8_manyBehind_38 : decode cX8_manyBehind 38 = .ok (.ireturn, 1) := by decide +kernel
set_option maxRecDepth 20000 in
theorem ggX8_steps_X8_of : GoodIn wsX8_steps wsX8_of := goodIn_r _ [5, 6, 7, 8, 9, 10, 11, 12, 13, 14, 15, 16, 17, 18, 19, 20, 21, 22, 23, 24] (by decide +kernel) (by decide +kernel)
set_option maxRecDepth 20000 in
theorem gX8_steps_X8_of : GoodIn wsX8_steps (wsV RX8 43 RX8 yX8_of wsX8_of) := goodIn_app (goodIn_of _ (by decide +kernel)) ggX8_steps_X8_of
theorem dX8_steps_0 : decode cX8_steps 0 = .ok (.iconst 0, 1) := by decide +kernel
theorem dX8_steps_1 : decode cX8_steps 1 = .ok (.istore_n 2, 1) := by decide +kernel
theorem dX8_steps_2 : decode cX8_steps 2 = .ok (.aload_n 0, 1) := by decide +kernel
theorem dX8_steps_3 : decode cX8_steps 3 = .ok (.iload_n 1, 1) := by decide +kernel
theorem dX8_steps_4 : decode cX8_steps 4 = .ok (.iconst 5, 1) := by decide +kernel
theorem dX8_steps_5 : decode cX8_steps 5 = .ok (.invokevirtual 43, 3) := by decide +kernel
theorem dX8_steps_8 : decode cX8_steps 8 = .ok (.istore_n 3, 1) := by decide +kernel
theorem dX8_steps_9 : decode cX8_steps 9 = .ok (.iload_n 3, 1) := by decide +kernel
theorem dX8_steps_10 : decode cX8_steps 10 = .ok (.ifCond .lt 16, 3) := by decide +kernel
theorem dX8_steps_13 : decode cX8_steps 13 = .ok (.iinc 2 1, 3) := by decide +kernel
theorem dX8_steps_16 : decode cX8_steps 16 = .ok (.aload_n 0, 1) := by decide +kernel
theorem dX8_steps_17 : decode cX8_steps 17 = .ok (.iload_n 3, 1) := by decide +kernel
theorem dX8_steps_18 : decode cX8_steps 18 = .ok (.iconst 5, 1) := by decide +kernel
theorem dX8_steps_19 : decode cX8_steps 19 = .ok (.invokevirtual 43, 3) := by decide +kernel
theorem dX8_steps_22 : decode cX8_steps 22 = .ok (.istore_n 3, 1) := by decide +kernel
theorem dX8_steps_23 : decode cX8_steps 23 = .ok (.goto (-14), 3) := by decide +kernel
theorem dX8_steps_26 : decode cX8_steps 26 = .ok (.iload_n 2, 1) := by decide +kernel
theorem dX8_steps_27 : decode cX8_steps 27 = .ok (.ireturn, 1) := by decide +kernel
set_option maxRecDepth 20000 in
theorem ggX8_cardOf_X8_isCard : GoodIn wsX8_cardOf wsX8_isCard := goodIn_r _ [7, 8, 9, 10, 6, 11, 28, 29, 30, 31, 32, 33, 34, 35, 36, 37, 38, 39, 40, 41, 42, 43, 44, 45] (by decide +kernel) (by decide +kernel)
set_option maxRecDepth 20000 in
theorem gX8_cardOf_X8_isCard : GoodIn wsX8_cardOf (wsV RX8 57 RX8 yX8_isCard wsX8_isCard) := goodIn_app (goodIn_of _ (by decide +kernel)) ggX8_cardOf_X8_isCard
set_option maxRecDepth 20000 in
theorem ggX8_cardOf_X8_in : GoodIn wsX8_cardOf wsX8_in := goodIn_r _ [11] (by decide +kernel) (by decide +kernel)
set_option maxRecDepth 20000 in
theorem gX8_cardOf_X8_in : GoodIn wsX8_cardOf (va_wsS RX8 31 yX8_in wsX8_in) := goodIn_app (goodIn_of _ (by decide +kernel)) ggX8_cardOf_X8_in
set_option maxRecDepth 20000 in
theorem ggX8_cardOf_X8_of : GoodIn wsX8_cardOf wsX8_of := goodIn_r _ [15, 8, 28, 29, 30, 31, 32, 33, 34, 35, 36, 37, 38, 39, 40, 41, 42, 43, 44, 45] (by decide +kernel) (by decide +kernel)
set_option maxRecDepth 20000 in
theorem gX8_cardOf_X8_of : GoodIn wsX8_cardOf (wsV RX8 43 RX8 yX8_of wsX8_of) := goodIn_app (goodIn_of _ (by decide +kernel)) ggX8_cardOf_X8_of
set_option maxRecDepth 20000 in
theorem ggX8_cardOf_X8_manyBehind : GoodIn wsX8_cardOf wsX8_manyBehind := goodIn_r _ [19, 8, 20, 21, 22, 6, 23, 12, 13, 14, 15, 28, 29, 30, 31, 32, 33, 34, 35, 36, 37, 38, 39, 40, 41, 42, 43, 44, 45] (by decide +kernel) (by decide +kernel)
set_option maxRecDepth 20000 in
theorem gX8_cardOf_X8_manyBehind : GoodIn wsX8_cardOf (wsV RX8 115 RX8 yX8_manyBehind wsX8_manyBehind) := goodIn_app (goodIn_of _ (by decide +kernel)) ggX8_cardOf_X8_manyBehind
set_option maxRecDepth 20000 in
theorem ggX8_cardOf_X8_steps : GoodIn wsX8_cardOf wsX8_steps := goodIn_r _ [27, 12, 13, 14, 6, 15, 8, 28, 29, 30, 31, 32, 33, 34, 35, 36, 37, 38, 39, 40, 41, 42, 43, 44, 45] (by decide +kernel) (by decide +kernel)
set_option maxRecDepth 20000 in
theorem gX8_cardOf_X8_steps : GoodIn wsX8_cardOf (wsV RX8 118 RX8 yX8_steps wsX8_steps) := goodIn_app (goodIn_of _ (by decide +kernel)) ggX8_cardOf_X8_steps
theorem dX8_cardOf_0 : decode cX8_cardOf 0 = .ok (.aload_n 0, 1) := by decide +kernel
theorem dX8_cardOf_1 : decode cX8_cardOf 1 = .ok (.iload_n 1, 1) := by decide +kernel
theorem dX8_cardOf_2 : decode cX8_cardOf 2 = .ok (.invokevirtual 57, 3) := by decide +kernel
theorem dX8_cardOf_5 : decode cX8_cardOf 5 = .ok (.ifCond .eq 13, 3) := by decide +kernel
theorem dX8_cardOf_8 : decode cX8_cardOf 8 = .ok (.iload_n 2, 1) := by decide +kernel
theorem dX8_cardOf_9 : decode cX8_cardOf 9 = .ok (.iconst 0, 1) := by decide +kernel
theorem dX8_cardOf_10 : decode cX8_cardOf 10 = .ok (.bipush 9, 2) := by decide +kernel
theorem dX8_cardOf_12 : decode cX8_cardOf 12 = .ok (.invokestatic 31, 3) := by decide +kernel
theorem dX8_cardOf_15 : decode cX8_cardOf 15 = .ok (.ifCond .ne 6, 3) := by decide +kernel
theorem dX8_cardOf_18 : decode cX8_cardOf 18 = .ok (.ldc 35, 2) := by decide +kernel
theorem dX8_cardOf_20 : decode cX8_cardOf 20 = .ok (.ireturn, 1) := by decide +kernel
theorem dX8_cardOf_21 : decode cX8_cardOf 21 = .ok (.iload_n 2, 1) := by decide +kernel
theorem dX8_cardOf_22 : decode cX8_cardOf 22 = .ok (.tableswitch 67 5 9 #[34, 67, 67, 55, 61], 34) := by decide +kernel
theorem dX8_cardOf_56 : decode cX8_cardOf 56 = .ok (.aload_n 0, 1) := by decide +kernel
theorem dX8_cardOf_57 : decode cX8_cardOf 57 = .ok (.iload_n 1, 1) := by decide +kernel
theorem dX8_cardOf_58 : decode cX8_cardOf 58 = .ok (.iconst 5, 1) := by decide +kernel
theorem dX8_cardOf_59 : decode cX8_cardOf 59 = .ok (.invokevirtual 43, 3) := by decide +kernel
theorem dX8_cardOf_62 : decode cX8_cardOf 62 = .ok (.ifCond .ge 8, 3) := by decide +kernel
theorem dX8_cardOf_65 : decode cX8_cardOf 65 = .ok (.ldc 114, 2) := by decide +kernel
theorem dX8_cardOf_67 : decode cX8_cardOf 67 = .ok (.goto 9, 3) := by decide +kernel
theorem dX8_cardOf_70 : decode cX8_cardOf 70 = .ok (.aload_n 0, 1) := by decide +kernel
theorem dX8_cardOf_71 : decode cX8_cardOf 71 = .ok (.iload_n 1, 1) := by decide +kernel
theorem dX8_cardOf_72 : decode cX8_cardOf 72 = .ok (.iconst 5, 1) := by decide +kernel
theorem dX8_cardOf_73 : decode cX8_cardOf 73 = .ok (.invokevirtual 43, 3) := by decide +kernel
theorem dX8_cardOf_76 : decode cX8_cardOf 76 = .ok (.ireturn, 1) := by decide +kernel
theorem dX8_cardOf_77 : decode cX8_cardOf 77 = .ok (.aload_n 0, 1) := by decide +kernel
theorem dX8_cardOf_78 : decode cX8_cardOf 78 = .ok (.iload_n 1, 1) := by decide +kernel
theorem dX8_cardOf_79 : decode cX8_cardOf 79 = .ok (.invokevirtual 115, 3) := by decide +kernel
theorem dX8_cardOf_82 : decode cX8_cardOf 82 = .ok (.ireturn, 1) := by decide +kernel
theorem dX8_cardOf_83 : decode cX8_cardOf 83 = .ok (.aload_n 0, 1) := by decide +kernel
theorem dX8_cardOf_84 : decode cX8_cardOf 84 = .ok (.iload_n 1, 1) := by decide +kernel
theorem dX8_cardOf_85 : decode cX8_cardOf 85 = .ok (.invokevirtual 118, 3) := by decide +kernel
theorem dX8_cardOf_88 : decode cX8_cardOf 88 = .ok (.ireturn, 1) := by decide +kernel
theorem dX8_cardOf_89 : decode cX8_cardOf 89 = .ok (.aload_n 0, 1) := by decide +kernel
theorem dX8_cardOf_90 : decode cX8_cardOf 90 = .ok (.iload_n 1, 1) := by decide +kernel
theorem dX8_cardOf_91 : decode cX8_cardOf 91 = .ok (.iload_n 2, 1) := by decide +kernel
theorem dX8_cardOf_92 : decode cX8_cardOf 92 = .ok (.invokevirtual 43, 3) := by decide +kernel
theorem dX8_cardOf_95 : decode cX8_cardOf 95 = .ok (.ireturn, 1) := by decide +kernel
set_option maxRecDepth 20000 in
theorem ggX8_flightOf_X8_in : GoodIn wsX8_flightOf wsX8_in := goodIn_r _ [7] (by decide +kernel) (by decide +kernel)
set_option maxRecDepth 20000 in
theorem gX8_flightOf_X8_in : GoodIn wsX8_flightOf (va_wsS RX8 31 yX8_in wsX8_in) := goodIn_app (goodIn_of _ (by decide +kernel)) ggX8_flightOf_X8_in
theorem dX8_flightOf_0 : decode cX8_flightOf 0 = .ok (.iload_n 1, 1) := by decide +kernel
theorem dX8_flightOf_1 : decode cX8_flightOf 1 = .ok (.ifCond .lt 12, 3) := by decide +kernel
theorem dX8_flightOf_4 : decode cX8_flightOf 4 = .ok (.iload_n 2, 1) := by decide +kernel
theorem dX8_flightOf_5 : decode cX8_flightOf 5 = .ok (.iconst 0, 1) := by decide +kernel
theorem dX8_flightOf_6 : decode cX8_flightOf 6 = .ok (.iconst 4, 1) := by decide +kernel
theorem dX8_flightOf_7 : decode cX8_flightOf 7 = .ok (.invokestatic 31, 3) := by decide +kernel
theorem dX8_flightOf_10 : decode cX8_flightOf 10 = .ok (.ifCond .ne 6, 3) := by decide +kernel
theorem dX8_flightOf_13 : decode cX8_flightOf 13 = .ok (.ldc 35, 2) := by decide +kernel
theorem dX8_flightOf_15 : decode cX8_flightOf 15 = .ok (.ireturn, 1) := by decide +kernel
theorem dX8_flightOf_16 : decode cX8_flightOf 16 = .ok (.iload_n 1, 1) := by decide +kernel
theorem dX8_flightOf_17 : decode cX8_flightOf 17 = .ok (.aload_n 0, 1) := by decide +kernel
theorem dX8_flightOf_18 : decode cX8_flightOf 18 = .ok (.getfield 7, 3) := by decide +kernel
theorem dX8_flightOf_21 : decode cX8_flightOf 21 = .ok (.bipush 11, 2) := by decide +kernel
theorem dX8_flightOf_23 : decode cX8_flightOf 23 = .ok (.iaload, 1) := by decide +kernel
theorem dX8_flightOf_24 : decode cX8_flightOf 24 = .ok (.if_icmp .ge 19, 3) := by decide +kernel
theorem dX8_flightOf_27 : decode cX8_flightOf 27 = .ok (.aload_n 0, 1) := by decide +kernel
theorem dX8_flightOf_28 : decode cX8_flightOf 28 = .ok (.getfield 7, 3) := by decide +kernel
theorem dX8_flightOf_31 : decode cX8_flightOf 31 = .ok (.bipush 12, 2) := by decide +kernel
theorem dX8_flightOf_33 : decode cX8_flightOf 33 = .ok (.iconst 5, 1) := by decide +kernel
theorem dX8_flightOf_34 : decode cX8_flightOf 34 = .ok (.iload_n 1, 1) := by decide +kernel
theorem dX8_flightOf_35 : decode cX8_flightOf 35 = .ok (.imul, 1) := by decide +kernel
theorem dX8_flightOf_36 : decode cX8_flightOf 36 = .ok (.iadd, 1) := by decide +kernel
theorem dX8_flightOf_37 : decode cX8_flightOf 37 = .ok (.iload_n 2, 1) := by decide +kernel
theorem dX8_flightOf_38 : decode cX8_flightOf 38 = .ok (.iadd, 1) := by decide +kernel
theorem dX8_flightOf_39 : decode cX8_flightOf 39 = .ok (.iaload, 1) := by decide +kernel
theorem dX8_flightOf_40 : decode cX8_flightOf 40 = .ok (.goto 5, 3) := by decide +kernel
theorem dX8_flightOf_43 : decode cX8_flightOf 43 = .ok (.ldc 114, 2) := by decide +kernel
theorem dX8_flightOf_45 : decode cX8_flightOf 45 = .ok (.ireturn, 1) := by decide +kernel
set_option maxRecDepth 20000 in
theorem ggX8_weatherOf_X8_in : GoodIn wsX8_weatherOf wsX8_in := goodIn_r _ [5] (by decide +kernel) (by decide +kernel)
set_option maxRecDepth 20000 in
theorem gX8_weatherOf_X8_in : GoodIn wsX8_weatherOf (va_wsS RX8 31 yX8_in wsX8_in) := goodIn_app (goodIn_of _ (by decide +kernel)) ggX8_weatherOf_X8_in
set_option maxRecDepth 20000 in
theorem ggX8_weatherOf_X8_cardsBy : GoodIn wsX8_weatherOf wsX8_cardsBy := goodIn_r _ [9, 10, 11, 12, 13, 4, 14, 15, 16, 17, 18, 19, 20, 21, 22, 23, 24, 25, 26, 27, 28, 29, 30, 31, 32, 33, 34, 35, 36, 37, 38, 39, 40] (by decide +kernel) (by decide +kernel)
set_option maxRecDepth 20000 in
theorem gX8_weatherOf_X8_cardsBy : GoodIn wsX8_weatherOf (wsV RX8 80 RX8 yX8_cardsBy wsX8_cardsBy) := goodIn_app (goodIn_of _ (by decide +kernel)) ggX8_weatherOf_X8_cardsBy
set_option maxRecDepth 20000 in
theorem ggX8_weatherOf_X8_sky : GoodIn wsX8_weatherOf wsX8_sky := goodIn_r _ [18, 10, 23, 24, 25, 26, 27, 28, 29, 30, 31, 32, 33, 34, 35, 36, 37, 38, 39, 40] (by decide +kernel) (by decide +kernel)
set_option maxRecDepth 20000 in
theorem gX8_weatherOf_X8_sky : GoodIn wsX8_weatherOf (wsV RX8 47 RX8 yX8_sky wsX8_sky) := goodIn_app (goodIn_of _ (by decide +kernel)) ggX8_weatherOf_X8_sky
theorem dX8_weatherOf_0 : decode cX8_weatherOf 0 = .ok (.iload_n 1, 1) := by decide +kernel
theorem dX8_weatherOf_1 : decode cX8_weatherOf 1 = .ok (.iconst 0, 1) := by decide +kernel
theorem dX8_weatherOf_2 : decode cX8_weatherOf 2 = .ok (.bipush 27, 2) := by decide +kernel
theorem dX8_weatherOf_4 : decode cX8_weatherOf 4 = .ok (.invokestatic 31, 3) := by decide +kernel
theorem dX8_weatherOf_7 : decode cX8_weatherOf 7 = .ok (.ifCond .eq 12, 3) := by decide +kernel
theorem dX8_weatherOf_10 : decode cX8_weatherOf 10 = .ok (.iload_n 2, 1) := by decide +kernel
theorem dX8_weatherOf_11 : decode cX8_weatherOf 11 = .ok (.iconst 0, 1) := by decide +kernel
theorem dX8_weatherOf_12 : decode cX8_weatherOf 12 = .ok (.iconst 3, 1) := by decide +kernel
theorem dX8_weatherOf_13 : decode cX8_weatherOf 13 = .ok (.invokestatic 31, 3) := by decide +kernel
theorem dX8_weatherOf_16 : decode cX8_weatherOf 16 = .ok (.ifCond .ne 6, 3) := by decide +kernel
theorem dX8_weatherOf_19 : decode cX8_weatherOf 19 = .ok (.ldc 35, 2) := by decide +kernel
theorem dX8_weatherOf_21 : decode cX8_weatherOf 21 = .ok (.ireturn, 1) := by decide +kernel
theorem dX8_weatherOf_22 : decode cX8_weatherOf 22 = .ok (.iload_n 2, 1) := by decide +kernel
theorem dX8_weatherOf_23 : decode cX8_weatherOf 23 = .ok (.iconst 3, 1) := by decide +kernel
theorem dX8_weatherOf_24 : decode cX8_weatherOf 24 = .ok (.if_icmp .ne 11, 3) := by decide +kernel
theorem dX8_weatherOf_27 : decode cX8_weatherOf 27 = .ok (.aload_n 0, 1) := by decide +kernel
theorem dX8_weatherOf_28 : decode cX8_weatherOf 28 = .ok (.iload_n 1, 1) := by decide +kernel
theorem dX8_weatherOf_29 : decode cX8_weatherOf 29 = .ok (.invokevirtual 80, 3) := by decide +kernel
theorem dX8_weatherOf_32 : decode cX8_weatherOf 32 = .ok (.goto 9, 3) := by decide +kernel
theorem dX8_weatherOf_35 : decode cX8_weatherOf 35 = .ok (.aload_n 0, 1) := by decide +kernel
theorem dX8_weatherOf_36 : decode cX8_weatherOf 36 = .ok (.iload_n 1, 1) := by decide +kernel
theorem dX8_weatherOf_37 : decode cX8_weatherOf 37 = .ok (.iload_n 2, 1) := by decide +kernel
theorem dX8_weatherOf_38 : decode cX8_weatherOf 38 = .ok (.invokevirtual 47, 3) := by decide +kernel
theorem dX8_weatherOf_41 : decode cX8_weatherOf 41 = .ok (.ireturn, 1) := by decide +kernel
set_option maxRecDepth 20000 in
theorem ggX8_cards_X8_in : GoodIn wsX8_cards wsX8_in := goodIn_r _ [6] (by decide +kernel) (by decide +kernel)
set_option maxRecDepth 20000 in
theorem gX8_cards_X8_in : GoodIn wsX8_cards (va_wsS RX8 31 yX8_in wsX8_in) := goodIn_app (goodIn_of _ (by decide +kernel)) ggX8_cards_X8_in
set_option maxRecDepth 20000 in
theorem ggX8_cards_X8_reason : GoodIn wsX8_cards wsX8_reason := goodIn_r _ [10, 2, 11, 12, 13, 5, 14, 15, 16, 17, 18, 19, 20, 21, 22, 23, 24, 25, 26, 27, 28, 29, 30, 31, 32, 33, 34, 35, 36, 37, 38, 39, 40, 41, 42, 43, 44] (by decide +kernel) (by decide +kernel)
set_option maxRecDepth 20000 in
theorem gX8_cards_X8_reason : GoodIn wsX8_cards (wsV RX8 60 RX8 yX8_reason wsX8_reason) := goodIn_app (goodIn_of _ (by decide +kernel)) ggX8_cards_X8_reason
set_option maxRecDepth 20000 in
theorem ggX8_cards_X8_of : GoodIn wsX8_cards wsX8_of := goodIn_r _ [14, 2, 27, 28, 29, 30, 31, 32, 33, 34, 35, 36, 37, 38, 39, 40, 41, 42, 43, 44] (by decide +kernel) (by decide +kernel)
set_option maxRecDepth 20000 in
theorem gX8_cards_X8_of : GoodIn wsX8_cards (wsV RX8 43 RX8 yX8_of wsX8_of) := goodIn_app (goodIn_of _ (by decide +kernel)) ggX8_cards_X8_of
theorem dX8_cards_0 : decode cX8_cards 0 = .ok (.iload_n 1, 1) := by decide +kernel
theorem dX8_cards_1 : decode cX8_cards 1 = .ok (.iconst 0, 1) := by decide +kernel
theorem dX8_cards_2 : decode cX8_cards 2 = .ok (.iconst 4, 1) := by decide +kernel
theorem dX8_cards_3 : decode cX8_cards 3 = .ok (.invokestatic 31, 3) := by decide +kernel
theorem dX8_cards_6 : decode cX8_cards 6 = .ok (.ifCond .ne 6, 3) := by decide +kernel
theorem dX8_cards_9 : decode cX8_cards 9 = .ok (.ldc 35, 2) := by decide +kernel
theorem dX8_cards_11 : decode cX8_cards 11 = .ok (.ireturn, 1) := by decide +kernel
theorem dX8_cards_12 : decode cX8_cards 12 = .ok (.iconst 0, 1) := by decide +kernel
theorem dX8_cards_13 : decode cX8_cards 13 = .ok (.istore_n 2, 1) := by decide +kernel
theorem dX8_cards_14 : decode cX8_cards 14 = .ok (.iconst 0, 1) := by decide +kernel
theorem dX8_cards_15 : decode cX8_cards 15 = .ok (.istore_n 3, 1) := by decide +kernel
theorem dX8_cards_16 : decode cX8_cards 16 = .ok (.iload_n 3, 1) := by decide +kernel
theorem dX8_cards_17 : decode cX8_cards 17 = .ok (.aload_n 0, 1) := by decide +kernel
theorem dX8_cards_18 : decode cX8_cards 18 = .ok (.getfield 7, 3) := by decide +kernel
theorem dX8_cards_21 : decode cX8_cards 21 = .ok (.iconst 0, 1) := by decide +kernel
theorem dX8_cards_22 : decode cX8_cards 22 = .ok (.iaload, 1) := by decide +kernel
theorem dX8_cards_23 : decode cX8_cards 23 = .ok (.if_icmp .ge 64, 3) := by decide +kernel
theorem dX8_cards_26 : decode cX8_cards 26 = .ok (.iload_n 1, 1) := by decide +kernel
theorem dX8_cards_27 : decode cX8_cards 27 = .ok (.iconst 4, 1) := by decide +kernel
theorem dX8_cards_28 : decode cX8_cards 28 = .ok (.if_icmp .ne 20, 3) := by decide +kernel
theorem dX8_cards_31 : decode cX8_cards 31 = .ok (.aload_n 0, 1) := by decide +kernel
theorem dX8_cards_32 : decode cX8_cards 32 = .ok (.iload_n 3, 1) := by decide +kernel
theorem dX8_cards_33 : decode cX8_cards 33 = .ok (.iconst 0, 1) := by decide +kernel
theorem dX8_cards_34 : decode cX8_cards 34 = .ok (.invokevirtual 60, 3) := by decide +kernel
theorem dX8_cards_37 : decode cX8_cards 37 = .ok (.ifCond .ne 7, 3) := by decide +kernel
theorem dX8_cards_40 : decode cX8_cards 40 = .ok (.iconst 1, 1) := by decide +kernel
theorem dX8_cards_41 : decode cX8_cards 41 = .ok (.goto 23, 3) := by decide +kernel
theorem dX8_cards_44 : decode cX8_cards 44 = .ok (.iconst 0, 1) := by decide +kernel
theorem dX8_cards_45 : decode cX8_cards 45 = .ok (.goto 19, 3) := by decide +kernel
theorem dX8_cards_48 : decode cX8_cards 48 = .ok (.aload_n 0, 1) := by decide +kernel
theorem dX8_cards_49 : decode cX8_cards 49 = .ok (.iload_n 3, 1) := by decide +kernel
theorem dX8_cards_50 : decode cX8_cards 50 = .ok (.bipush 6, 2) := by decide +kernel
theorem dX8_cards_52 : decode cX8_cards 52 = .ok (.invokevirtual 43, 3) := by decide +kernel
theorem dX8_cards_55 : decode cX8_cards 55 = .ok (.iload_n 1, 1) := by decide +kernel
theorem dX8_cards_56 : decode cX8_cards 56 = .ok (.if_icmp .ne 7, 3) := by decide +kernel
theorem dX8_cards_59 : decode cX8_cards 59 = .ok (.iconst 1, 1) := by decide +kernel
theorem dX8_cards_60 : decode cX8_cards 60 = .ok (.goto 4, 3) := by decide +kernel
theorem dX8_cards_63 : decode cX8_cards 63 = .ok (.iconst 0, 1) := by decide +kernel
theorem dX8_cards_64 : decode cX8_cards 64 = .ok (.istore 4, 2) := by decide +kernel
theorem dX8_cards_66 : decode cX8_cards 66 = .ok (.iload_n 2, 1) := by decide +kernel
theorem dX8_cards_67 : decode cX8_cards 67 = .ok (.iload 4, 2) := by decide +kernel
theorem dX8_cards_69 : decode cX8_cards 69 = .ok (.ifCond .eq 9, 3) := by decide +kernel
theorem dX8_cards_72 : decode cX8_cards 72 = .ok (.iconst 1, 1) := by decide +kernel
theorem dX8_cards_73 : decode cX8_cards 73 = .ok (.iload_n 3, 1) := by decide +kernel
theorem dX8_cards_74 : decode cX8_cards 74 = .ok (.ishl, 1) := by decide +kernel
theorem dX8_cards_75 : decode cX8_cards 75 = .ok (.goto 4, 3) := by decide +kernel
theorem dX8_cards_78 : decode cX8_cards 78 = .ok (.iconst 0, 1) := by decide +kernel
theorem dX8_cards_79 : decode cX8_cards 79 = .ok (.ior, 1) := by decide +kernel
theorem dX8_cards_80 : decode cX8_cards 80 = .ok (.istore_n 2, 1) := by decide +kernel
theorem dX8_cards_81 : decode cX8_cards 81 = .ok (.iinc 3 1, 3) := by decide +kernel
theorem dX8_cards_84 : decode cX8_cards 84 = .ok (.goto (-68), 3) := by decide +kernel
theorem dX8_cards_87 : decode cX8_cards 87 = .ok (.iload_n 2, 1) := by decide +kernel
theorem dX8_cards_88 : decode cX8_cards 88 = .ok (.ireturn, 1) := by decide +kernel
set_option maxRecDepth 20000 in
theorem ggX8_first_X8_isCard : GoodIn wsX8_first wsX8_isCard := goodIn_r _ [7, 8, 9, 10, 6, 11, 32, 33, 34, 35, 36, 37, 38, 39, 40, 41, 42, 43, 44, 45, 46, 47, 48, 49] (by decide +kernel) (by decide +kernel)
set_option maxRecDepth 20000 in
theorem gX8_first_X8_isCard : GoodIn wsX8_first (wsV RX8 57 RX8 yX8_isCard wsX8_isCard) := goodIn_app (goodIn_of _ (by decide +kernel)) ggX8_first_X8_isCard
set_option maxRecDepth 20000 in
theorem ggX8_first_X8_reason : GoodIn wsX8_first wsX8_reason := goodIn_r _ [15, 8, 16, 17, 18, 6, 19, 20, 21, 22, 23, 24, 25, 26, 27, 28, 29, 30, 31, 32, 33, 34, 35, 36, 37, 38, 39, 40, 41, 42, 43, 44, 45, 46, 47, 48, 49] (by decide +kernel) (by decide +kernel)
set_option maxRecDepth 20000 in
theorem gX8_first_X8_reason : GoodIn wsX8_first (wsV RX8 60 RX8 yX8_reason wsX8_reason) := goodIn_app (goodIn_of _ (by decide +kernel)) ggX8_first_X8_reason
theorem dX8_first_0 : decode cX8_first 0 = .ok (.aload_n 0, 1) := by decide +kernel
theorem dX8_first_1 : decode cX8_first 1 = .ok (.iload_n 1, 1) := by decide +kernel
theorem dX8_first_2 : decode cX8_first 2 = .ok (.invokevirtual 57, 3) := by decide +kernel
theorem dX8_first_5 : decode cX8_first 5 = .ok (.ifCond .ne 6, 3) := by decide +kernel
theorem dX8_first_8 : decode cX8_first 8 = .ok (.ldc 35, 2) := by decide +kernel
theorem dX8_first_10 : decode cX8_first 10 = .ok (.ireturn, 1) := by decide +kernel
theorem dX8_first_11 : decode cX8_first 11 = .ok (.iconst 0, 1) := by decide +kernel
theorem dX8_first_12 : decode cX8_first 12 = .ok (.istore_n 2, 1) := by decide +kernel
theorem dX8_first_13 : decode cX8_first 13 = .ok (.iload_n 2, 1) := by decide +kernel
theorem dX8_first_14 : decode cX8_first 14 = .ok (.bipush 100, 2) := by decide +kernel
theorem dX8_first_16 : decode cX8_first 16 = .ok (.if_icmp .ge 18, 3) := by decide +kernel
theorem dX8_first_19 : decode cX8_first 19 = .ok (.aload_n 0, 1) := by decide +kernel
theorem dX8_first_20 : decode cX8_first 20 = .ok (.iload_n 1, 1) := by decide +kernel
theorem dX8_first_21 : decode cX8_first 21 = .ok (.iload_n 2, 1) := by decide +kernel
theorem dX8_first_22 : decode cX8_first 22 = .ok (.invokevirtual 60, 3) := by decide +kernel
theorem dX8_first_25 : decode cX8_first 25 = .ok (.ifCond .eq 9, 3) := by decide +kernel
theorem dX8_first_28 : decode cX8_first 28 = .ok (.iinc 2 1, 3) := by decide +kernel
theorem dX8_first_31 : decode cX8_first 31 = .ok (.goto (-18), 3) := by decide +kernel
theorem dX8_first_34 : decode cX8_first 34 = .ok (.iload_n 2, 1) := by decide +kernel
theorem dX8_first_35 : decode cX8_first 35 = .ok (.bipush 100, 2) := by decide +kernel
theorem dX8_first_37 : decode cX8_first 37 = .ok (.if_icmp .ge 7, 3) := by decide +kernel
theorem dX8_first_40 : decode cX8_first 40 = .ok (.iload_n 2, 1) := by decide +kernel
theorem dX8_first_41 : decode cX8_first 41 = .ok (.goto 5, 3) := by decide +kernel
theorem dX8_first_44 : decode cX8_first 44 = .ok (.ldc 114, 2) := by decide +kernel
theorem dX8_first_46 : decode cX8_first 46 = .ok (.ireturn, 1) := by decide +kernel
set_option maxRecDepth 20000 in
theorem ggX8_cardThatCan_X8_reason : GoodIn wsX8_cardThatCan wsX8_reason := goodIn_r _ [6, 1, 7, 8, 9, 5, 10, 11, 12, 13, 14, 15, 16, 17, 18, 19, 20, 21, 22, 23, 24, 25, 26, 27, 28, 29, 30, 31, 32, 33, 34, 35, 36, 37, 38, 39, 40] (by decide +kernel) (by decide +kernel)
set_option maxRecDepth 20000 in
theorem gX8_cardThatCan_X8_reason : GoodIn wsX8_cardThatCan (wsV RX8 60 RX8 yX8_reason wsX8_reason) := goodIn_app (goodIn_of _ (by decide +kernel)) ggX8_cardThatCan_X8_reason
theorem dX8_cardThatCan_0 : decode cX8_cardThatCan 0 = .ok (.iconst 0, 1) := by decide +kernel
theorem dX8_cardThatCan_1 : decode cX8_cardThatCan 1 = .ok (.istore_n 1, 1) := by decide +kernel
theorem dX8_cardThatCan_2 : decode cX8_cardThatCan 2 = .ok (.iload_n 1, 1) := by decide +kernel
theorem dX8_cardThatCan_3 : decode cX8_cardThatCan 3 = .ok (.aload_n 0, 1) := by decide +kernel
theorem dX8_cardThatCan_4 : decode cX8_cardThatCan 4 = .ok (.getfield 7, 3) := by decide +kernel
theorem dX8_cardThatCan_7 : decode cX8_cardThatCan 7 = .ok (.iconst 0, 1) := by decide +kernel
theorem dX8_cardThatCan_8 : decode cX8_cardThatCan 8 = .ok (.iaload, 1) := by decide +kernel
theorem dX8_cardThatCan_9 : decode cX8_cardThatCan 9 = .ok (.if_icmp .ge 18, 3) := by decide +kernel
theorem dX8_cardThatCan_12 : decode cX8_cardThatCan 12 = .ok (.aload_n 0, 1) := by decide +kernel
theorem dX8_cardThatCan_13 : decode cX8_cardThatCan 13 = .ok (.iload_n 1, 1) := by decide +kernel
theorem dX8_cardThatCan_14 : decode cX8_cardThatCan 14 = .ok (.iconst 0, 1) := by decide +kernel
theorem dX8_cardThatCan_15 : decode cX8_cardThatCan 15 = .ok (.invokevirtual 60, 3) := by decide +kernel
theorem dX8_cardThatCan_18 : decode cX8_cardThatCan 18 = .ok (.ifCond .eq 9, 3) := by decide +kernel
theorem dX8_cardThatCan_21 : decode cX8_cardThatCan 21 = .ok (.iinc 1 1, 3) := by decide +kernel
theorem dX8_cardThatCan_24 : decode cX8_cardThatCan 24 = .ok (.goto (-22), 3) := by decide +kernel
theorem dX8_cardThatCan_27 : decode cX8_cardThatCan 27 = .ok (.iload_n 1, 1) := by decide +kernel
theorem dX8_cardThatCan_28 : decode cX8_cardThatCan 28 = .ok (.aload_n 0, 1) := by decide +kernel
theorem dX8_cardThatCan_29 : decode cX8_cardThatCan 29 = .ok (.getfield 7, 3) := by decide +kernel
theorem dX8_cardThatCan_32 : decode cX8_cardThatCan 32 = .ok (.iconst 0, 1) := by decide +kernel
theorem dX8_cardThatCan_33 : decode cX8_cardThatCan 33 = .ok (.iaload, 1) := by decide +kernel
theorem dX8_cardThatCan_34 : decode cX8_cardThatCan 34 = .ok (.if_icmp .ge 7, 3) := by decide +kernel
theorem dX8_cardThatCan_37 : decode cX8_cardThatCan 37 = .ok (.iload_n 1, 1) := by decide +kernel
theorem dX8_cardThatCan_38 : decode cX8_cardThatCan 38 = .ok (.goto 4, 3) := by decide +kernel
theorem dX8_cardThatCan_41 : decode cX8_cardThatCan 41 = .ok (.iconst (-1), 1) := by decide +kernel
theorem dX8_cardThatCan_42 : decode cX8_cardThatCan 42 = .ok (.ireturn, 1) := by decide +kernel
set_option maxRecDepth 20000 in
theorem ggX8_left_X8_isDone : GoodIn wsX8_left wsX8_isDone := goodIn_r _ [6, 7, 8, 9, 5, 10, 1, 11, 12, 13, 14, 15, 16, 17, 18, 19, 20, 21, 22, 23, 24, 25, 26, 27, 28] (by decide +kernel) (by decide +kernel)
set_option maxRecDepth 20000 in
theorem gX8_left_X8_isDone : GoodIn wsX8_left (wsV RX8 53 RX8 yX8_isDone wsX8_isDone) := goodIn_app (goodIn_of _ (by decide +kernel)) ggX8_left_X8_isDone
theorem dX8_left_0 : decode cX8_left 0 = .ok (.iconst 0, 1) := by decide +kernel
theorem dX8_left_1 : decode cX8_left 1 = .ok (.istore_n 1, 1) := by decide +kernel
theorem dX8_left_2 : decode cX8_left 2 = .ok (.iconst 0, 1) := by decide +kernel
theorem dX8_left_3 : decode cX8_left 3 = .ok (.istore_n 2, 1) := by decide +kernel
theorem dX8_left_4 : decode cX8_left 4 = .ok (.iload_n 2, 1) := by decide +kernel
theorem dX8_left_5 : decode cX8_left 5 = .ok (.aload_n 0, 1) := by decide +kernel
theorem dX8_left_6 : decode cX8_left 6 = .ok (.getfield 7, 3) := by decide +kernel
theorem dX8_left_9 : decode cX8_left 9 = .ok (.iconst 0, 1) := by decide +kernel
theorem dX8_left_10 : decode cX8_left 10 = .ok (.iaload, 1) := by decide +kernel
theorem dX8_left_11 : decode cX8_left 11 = .ok (.if_icmp .ge 27, 3) := by decide +kernel
theorem dX8_left_14 : decode cX8_left 14 = .ok (.iload_n 1, 1) := by decide +kernel
theorem dX8_left_15 : decode cX8_left 15 = .ok (.aload_n 0, 1) := by decide +kernel
theorem dX8_left_16 : decode cX8_left 16 = .ok (.iload_n 2, 1) := by decide +kernel
theorem dX8_left_17 : decode cX8_left 17 = .ok (.invokevirtual 53, 3) := by decide +kernel
theorem dX8_left_20 : decode cX8_left 20 = .ok (.ifCond .eq 7, 3) := by decide +kernel
theorem dX8_left_23 : decode cX8_left 23 = .ok (.iconst 0, 1) := by decide +kernel
theorem dX8_left_24 : decode cX8_left 24 = .ok (.goto 6, 3) := by decide +kernel
theorem dX8_left_27 : decode cX8_left 27 = .ok (.iconst 1, 1) := by decide +kernel
theorem dX8_left_28 : decode cX8_left 28 = .ok (.iload_n 2, 1) := by decide +kernel
theorem dX8_left_29 : decode cX8_left 29 = .ok (.ishl, 1) := by decide +kernel
theorem dX8_left_30 : decode cX8_left 30 = .ok (.ior, 1) := by decide +kernel
theorem dX8_left_31 : decode cX8_left 31 = .ok (.istore_n 1, 1) := by decide +kernel
theorem dX8_left_32 : decode cX8_left 32 = .ok (.iinc 2 1, 3) := by decide +kernel
theorem dX8_left_35 : decode cX8_left 35 = .ok (.goto (-31), 3) := by decide +kernel
theorem dX8_left_38 : decode cX8_left 38 = .ok (.iload_n 1, 1) := by decide +kernel
theorem dX8_left_39 : decode cX8_left 39 = .ok (.ireturn, 1) := by decide +kernel
set_option maxRecDepth 20000 in
theorem ggX8_plansDay_X8_cardThatCan : GoodIn wsX8_plansDay wsX8_cardThatCan := goodIn_r _ [10, 11, 12, 13, 14, 9, 15, 16, 17, 18, 19, 20, 21, 22, 23, 24, 25, 26, 27, 28, 29, 30, 31, 53, 54, 55, 56, 57, 58, 59, 60, 61, 62, 63, 64, 65, 66, 67, 68, 69, 70] (by decide +kernel) (by decide +kernel)
set_option maxRecDepth 20000 in
theorem gX8_plansDay_X8_cardThatCan : GoodIn wsX8_plansDay (wsV RX8 121 RX8 yX8_cardThatCan wsX8_cardThatCan) := goodIn_app (goodIn_of _ (by decide +kernel)) ggX8_plansDay_X8_cardThatCan
set_option maxRecDepth 20000 in
theorem ggX8_plansDay_X8_of : GoodIn wsX8_plansDay wsX8_of := goodIn_r _ [19, 11, 53, 54, 55, 56, 57, 58, 59, 60, 61, 62, 63, 64, 65, 66, 67, 68, 69, 70] (by decide +kernel) (by decide +kernel)
set_option maxRecDepth 20000 in
theorem gX8_plansDay_X8_of : GoodIn wsX8_plansDay (wsV RX8 43 RX8 yX8_of wsX8_of) := goodIn_app (goodIn_of _ (by decide +kernel)) ggX8_plansDay_X8_of
set_option maxRecDepth 20000 in
theorem ggX8_plansDay_X8_flies : GoodIn wsX8_plansDay wsX8_flies := goodIn_r _ [35, 36, 37, 11, 38, 39, 40, 9, 41, 42, 43, 44, 12, 13, 14, 15, 16, 17, 18, 19, 20, 21, 22, 23, 24, 25, 26, 27, 28, 29, 30, 31, 45, 46, 47, 48, 49, 50, 51, 52, 53, 54, 55, 56, 57, 58, 59, 60, 61, 62, 63, 64, 65, 66, 67, 68, 69, 70] (by decide +kernel) (by decide +kernel)
set_option maxRecDepth 20000 in
theorem gX8_plansDay_X8_flies : GoodIn wsX8_plansDay (wsV RX8 105 RX8 yX8_flies wsX8_flies) := goodIn_app (goodIn_of _ (by decide +kernel)) ggX8_plansDay_X8_flies
theorem dX8_plansDay_0 : decode cX8_plansDay 0 = .ok (.iconst 0, 1) := by decide +kernel
theorem dX8_plansDay_1 : decode cX8_plansDay 1 = .ok (.istore_n 2, 1) := by decide +kernel
theorem dX8_plansDay_2 : decode cX8_plansDay 2 = .ok (.aload_n 0, 1) := by decide +kernel
theorem dX8_plansDay_3 : decode cX8_plansDay 3 = .ok (.invokevirtual 121, 3) := by decide +kernel
theorem dX8_plansDay_6 : decode cX8_plansDay 6 = .ok (.istore_n 3, 1) := by decide +kernel
theorem dX8_plansDay_7 : decode cX8_plansDay 7 = .ok (.iload_n 3, 1) := by decide +kernel
theorem dX8_plansDay_8 : decode cX8_plansDay 8 = .ok (.ifCond .lt 67, 3) := by decide +kernel
theorem dX8_plansDay_11 : decode cX8_plansDay 11 = .ok (.aload_n 0, 1) := by decide +kernel
theorem dX8_plansDay_12 : decode cX8_plansDay 12 = .ok (.getfield 22, 3) := by decide +kernel
theorem dX8_plansDay_15 : decode cX8_plansDay 15 = .ok (.aload_n 0, 1) := by decide +kernel
theorem dX8_plansDay_16 : decode cX8_plansDay 16 = .ok (.getfield 125, 3) := by decide +kernel
theorem dX8_plansDay_19 : decode cX8_plansDay 19 = .ok (.iload_n 3, 1) := by decide +kernel
theorem dX8_plansDay_20 : decode cX8_plansDay 20 = .ok (.iastore, 1) := by decide +kernel
theorem dX8_plansDay_21 : decode cX8_plansDay 21 = .ok (.aload_n 0, 1) := by decide +kernel
theorem dX8_plansDay_22 : decode cX8_plansDay 22 = .ok (.getfield 25, 3) := by decide +kernel
theorem dX8_plansDay_25 : decode cX8_plansDay 25 = .ok (.aload_n 0, 1) := by decide +kernel
theorem dX8_plansDay_26 : decode cX8_plansDay 26 = .ok (.getfield 125, 3) := by decide +kernel
theorem dX8_plansDay_29 : decode cX8_plansDay 29 = .ok (.iload_n 1, 1) := by decide +kernel
theorem dX8_plansDay_30 : decode cX8_plansDay 30 = .ok (.iastore, 1) := by decide +kernel
theorem dX8_plansDay_31 : decode cX8_plansDay 31 = .ok (.aload_n 0, 1) := by decide +kernel
theorem dX8_plansDay_32 : decode cX8_plansDay 32 = .ok (.dup, 1) := by decide +kernel
theorem dX8_plansDay_33 : decode cX8_plansDay 33 = .ok (.getfield 125, 3) := by decide +kernel
theorem dX8_plansDay_36 : decode cX8_plansDay 36 = .ok (.iconst 1, 1) := by decide +kernel
theorem dX8_plansDay_37 : decode cX8_plansDay 37 = .ok (.iadd, 1) := by decide +kernel
theorem dX8_plansDay_38 : decode cX8_plansDay 38 = .ok (.putfield 125, 3) := by decide +kernel
theorem dX8_plansDay_41 : decode cX8_plansDay 41 = .ok (.aload_n 0, 1) := by decide +kernel
theorem dX8_plansDay_42 : decode cX8_plansDay 42 = .ok (.dup, 1) := by decide +kernel
theorem dX8_plansDay_43 : decode cX8_plansDay 43 = .ok (.getfield 128, 3) := by decide +kernel
theorem dX8_plansDay_46 : decode cX8_plansDay 46 = .ok (.aload_n 0, 1) := by decide +kernel
theorem dX8_plansDay_47 : decode cX8_plansDay 47 = .ok (.iload_n 3, 1) := by decide +kernel
theorem dX8_plansDay_48 : decode cX8_plansDay 48 = .ok (.iconst 4, 1) := by decide +kernel
theorem dX8_plansDay_49 : decode cX8_plansDay 49 = .ok (.invokevirtual 43, 3) := by decide +kernel
theorem dX8_plansDay_52 : decode cX8_plansDay 52 = .ok (.iadd, 1) := by decide +kernel
theorem dX8_plansDay_53 : decode cX8_plansDay 53 = .ok (.putfield 128, 3) := by decide +kernel
theorem dX8_plansDay_56 : decode cX8_plansDay 56 = .ok (.iinc 2 1, 3) := by decide +kernel
theorem dX8_plansDay_59 : decode cX8_plansDay 59 = .ok (.aload_n 0, 1) := by decide +kernel
theorem dX8_plansDay_60 : decode cX8_plansDay 60 = .ok (.iload_n 3, 1) := by decide +kernel
theorem dX8_plansDay_61 : decode cX8_plansDay 61 = .ok (.iconst 1, 1) := by decide +kernel
theorem dX8_plansDay_62 : decode cX8_plansDay 62 = .ok (.invokevirtual 105, 3) := by decide +kernel
theorem dX8_plansDay_65 : decode cX8_plansDay 65 = .ok (.istore 4, 2) := by decide +kernel
theorem dX8_plansDay_67 : decode cX8_plansDay 67 = .ok (.aload_n 0, 1) := by decide +kernel
theorem dX8_plansDay_68 : decode cX8_plansDay 68 = .ok (.invokevirtual 121, 3) := by decide +kernel
theorem dX8_plansDay_71 : decode cX8_plansDay 71 = .ok (.istore_n 3, 1) := by decide +kernel
theorem dX8_plansDay_72 : decode cX8_plansDay 72 = .ok (.goto (-65), 3) := by decide +kernel
theorem dX8_plansDay_75 : decode cX8_plansDay 75 = .ok (.aload_n 0, 1) := by decide +kernel
theorem dX8_plansDay_76 : decode cX8_plansDay 76 = .ok (.iload_n 2, 1) := by decide +kernel
theorem dX8_plansDay_77 : decode cX8_plansDay 77 = .ok (.aload_n 0, 1) := by decide +kernel
theorem dX8_plansDay_78 : decode cX8_plansDay 78 = .ok (.getfield 131, 3) := by decide +kernel
theorem dX8_plansDay_81 : decode cX8_plansDay 81 = .ok (.if_icmp .le 7, 3) := by decide +kernel
theorem dX8_plansDay_84 : decode cX8_plansDay 84 = .ok (.iload_n 2, 1) := by decide +kernel
theorem dX8_plansDay_85 : decode cX8_plansDay 85 = .ok (.goto 7, 3) := by decide +kernel
theorem dX8_plansDay_88 : decode cX8_plansDay 88 = .ok (.aload_n 0, 1) := by decide +kernel
theorem dX8_plansDay_89 : decode cX8_plansDay 89 = .ok (.getfield 131, 3) := by decide +kernel
theorem dX8_plansDay_92 : decode cX8_plansDay 92 = .ok (.putfield 131, 3) := by decide +kernel
theorem dX8_plansDay_95 : decode cX8_plansDay 95 = .ok (.return_, 1) := by decide +kernel
set_option maxRecDepth 20000 in
theorem ggX8_plans_X8_begins : GoodIn wsX8_plans wsX8_begins := goodIn_r _ [10, 11, 4, 75, 76, 77, 78, 79, 80, 81, 82, 83, 84, 85, 86, 87, 88, 89, 90, 91, 92] (by decide +kernel) (by decide +kernel)
set_option maxRecDepth 20000 in
theorem gX8_plans_X8_begins : GoodIn wsX8_plans (wsV RX8 91 RX8 yX8_begins wsX8_begins) := goodIn_app (goodIn_of _ (by decide +kernel)) ggX8_plans_X8_begins
set_option maxRecDepth 20000 in
theorem ggX8_plans_X8_left : GoodIn wsX8_plans wsX8_left := goodIn_r _ [15, 4, 16, 17, 18, 9, 19, 20, 21, 22, 23, 75, 76, 77, 78, 79, 80, 81, 82, 83, 84, 85, 86, 87, 88, 89, 90, 91, 92] (by decide +kernel) (by decide +kernel)
set_option maxRecDepth 20000 in
theorem gX8_plans_X8_left : GoodIn wsX8_plans (wsV RX8 134 RX8 yX8_left wsX8_left) := goodIn_app (goodIn_of _ (by decide +kernel)) ggX8_plans_X8_left
set_option maxRecDepth 20000 in
theorem ggX8_plans_X8_plansDay : GoodIn wsX8_plans wsX8_plansDay := goodIn_r _ [27, 28, 1, 29, 2, 3, 30, 31, 32, 9, 33, 4, 34, 35, 36, 37, 20, 21, 22, 23, 16, 17, 18, 19, 38, 39, 40, 41, 42, 43, 44, 45, 46, 47, 48, 49, 50, 51, 52, 53, 54, 55, 56, 57, 58, 59, 60, 61, 62, 63, 64, 65, 66, 75, 76, 77, 78, 79, 80, 81, 82, 83, 84, 85, 86, 87, 88, 89, 90, 91, 92] (by decide +kernel) (by decide +kernel)
set_option maxRecDepth 20000 in
theorem gX8_plans_X8_plansDay : GoodIn wsX8_plans (wsV RX8 137 RX8 yX8_plansDay wsX8_plansDay) := goodIn_app (goodIn_of _ (by decide +kernel)) ggX8_plans_X8_plansDay
set_option maxRecDepth 20000 in
theorem ggX8_plans_X8_goesTo : GoodIn wsX8_plans wsX8_goesTo := goodIn_r _ [70, 4, 75, 76, 77, 78, 79, 80, 81, 82, 83, 84, 85, 86, 87, 88, 89, 90, 91, 92] (by decide +kernel) (by decide +kernel)
set_option maxRecDepth 20000 in
theorem gX8_plans_X8_goesTo : GoodIn wsX8_plans (wsV RX8 73 RX8 yX8_goesTo wsX8_goesTo) := goodIn_app (goodIn_of _ (by decide +kernel)) ggX8_plans_X8_goesTo
set_option maxRecDepth 20000 in
theorem ggX8_plans_X8_returns : GoodIn wsX8_plans wsX8_returns := goodIn_r _ [74, 4, 11, 75, 76, 77, 78, 79, 80, 81, 82, 83, 84, 85, 86, 87, 88, 89, 90, 91, 92] (by decide +kernel) (by decide +kernel)
set_option maxRecDepth 20000 in
theorem gX8_plans_X8_returns : GoodIn wsX8_plans (wsV RX8 36 RX8 yX8_returns wsX8_returns) := goodIn_app (goodIn_of _ (by decide +kernel)) ggX8_plans_X8_returns
theorem dX8_plans_0 : decode cX8_plans 0 = .ok (.aload_n 0, 1) := by decide +kernel
theorem dX8_plans_1 : decode cX8_plans 1 = .ok (.invokevirtual 91, 3) := by decide +kernel
theorem dX8_plans_4 : decode cX8_plans 4 = .ok (.aload_n 0, 1) := by decide +kernel
theorem dX8_plans_5 : decode cX8_plans 5 = .ok (.iconst 0, 1) := by decide +kernel
theorem dX8_plans_6 : decode cX8_plans 6 = .ok (.putfield 125, 3) := by decide +kernel
theorem dX8_plans_9 : decode cX8_plans 9 = .ok (.aload_n 0, 1) := by decide +kernel
theorem dX8_plans_10 : decode cX8_plans 10 = .ok (.iconst 0, 1) := by decide +kernel
theorem dX8_plans_11 : decode cX8_plans 11 = .ok (.putfield 128, 3) := by decide +kernel
theorem dX8_plans_14 : decode cX8_plans 14 = .ok (.aload_n 0, 1) := by decide +kernel
theorem dX8_plans_15 : decode cX8_plans 15 = .ok (.iconst 0, 1) := by decide +kernel
theorem dX8_plans_16 : decode cX8_plans 16 = .ok (.putfield 131, 3) := by decide +kernel
theorem dX8_plans_19 : decode cX8_plans 19 = .ok (.iconst 0, 1) := by decide +kernel
theorem dX8_plans_20 : decode cX8_plans 20 = .ok (.istore_n 1, 1) := by decide +kernel
theorem dX8_plans_21 : decode cX8_plans 21 = .ok (.iload_n 1, 1) := by decide +kernel
theorem dX8_plans_22 : decode cX8_plans 22 = .ok (.bipush 100, 2) := by decide +kernel
theorem dX8_plans_24 : decode cX8_plans 24 = .ok (.if_icmp .ge 33, 3) := by decide +kernel
theorem dX8_plans_27 : decode cX8_plans 27 = .ok (.aload_n 0, 1) := by decide +kernel
theorem dX8_plans_28 : decode cX8_plans 28 = .ok (.invokevirtual 134, 3) := by decide +kernel
theorem dX8_plans_31 : decode cX8_plans 31 = .ok (.ifCond .eq 26, 3) := by decide +kernel
theorem dX8_plans_34 : decode cX8_plans 34 = .ok (.aload_n 0, 1) := by decide +kernel
theorem dX8_plans_35 : decode cX8_plans 35 = .ok (.iload_n 1, 1) := by decide +kernel
theorem dX8_plans_36 : decode cX8_plans 36 = .ok (.invokevirtual 137, 3) := by decide +kernel
theorem dX8_plans_39 : decode cX8_plans 39 = .ok (.aload_n 0, 1) := by decide +kernel
theorem dX8_plans_40 : decode cX8_plans 40 = .ok (.aload_n 0, 1) := by decide +kernel
theorem dX8_plans_41 : decode cX8_plans 41 = .ok (.getfield 7, 3) := by decide +kernel
theorem dX8_plans_44 : decode cX8_plans 44 = .ok (.iconst 1, 1) := by decide +kernel
theorem dX8_plans_45 : decode cX8_plans 45 = .ok (.iaload, 1) := by decide +kernel
theorem dX8_plans_46 : decode cX8_plans 46 = .ok (.iconst 1, 1) := by decide +kernel
theorem dX8_plans_47 : decode cX8_plans 47 = .ok (.iadd, 1) := by decide +kernel
theorem dX8_plans_48 : decode cX8_plans 48 = .ok (.invokevirtual 73, 3) := by decide +kernel
theorem dX8_plans_51 : decode cX8_plans 51 = .ok (.iinc 1 1, 3) := by decide +kernel
theorem dX8_plans_54 : decode cX8_plans 54 = .ok (.goto (-33), 3) := by decide +kernel
theorem dX8_plans_57 : decode cX8_plans 57 = .ok (.aload_n 0, 1) := by decide +kernel
theorem dX8_plans_58 : decode cX8_plans 58 = .ok (.aload_n 0, 1) := by decide +kernel
theorem dX8_plans_59 : decode cX8_plans 59 = .ok (.invokevirtual 134, 3) := by decide +kernel
theorem dX8_plans_62 : decode cX8_plans 62 = .ok (.putfield 140, 3) := by decide +kernel
theorem dX8_plans_65 : decode cX8_plans 65 = .ok (.aload_n 0, 1) := by decide +kernel
theorem dX8_plans_66 : decode cX8_plans 66 = .ok (.invokevirtual 36, 3) := by decide +kernel
theorem dX8_plans_69 : decode cX8_plans 69 = .ok (.return_, 1) := by decide +kernel
set_option maxRecDepth 20000 in
theorem ggX8_planned_X8_in : GoodIn wsX8_planned wsX8_in := goodIn_r _ [9] (by decide +kernel) (by decide +kernel)
set_option maxRecDepth 20000 in
theorem gX8_planned_X8_in : GoodIn wsX8_planned (va_wsS RX8 31 yX8_in wsX8_in) := goodIn_app (goodIn_of _ (by decide +kernel)) ggX8_planned_X8_in
set_option maxRecDepth 20000 in
theorem ggX8_planned_X8_plans : GoodIn wsX8_planned wsX8_plans := goodIn_r _ [13, 2, 14, 15, 16, 17, 18, 19, 20, 8, 21, 22, 23, 24, 25, 26, 27, 28, 29, 30, 31, 32, 33, 34, 35, 36, 37, 38, 4, 5, 39, 40, 41, 42, 43, 44, 45, 46, 47, 48, 49, 50, 51, 52, 53, 54, 55, 56, 57, 58, 1, 59, 60, 61, 62, 63, 6, 7, 9, 64, 65, 66, 67, 68, 69, 70, 71, 72, 73, 74, 75, 76, 77, 78, 79, 80, 81, 82, 83, 84, 85, 86, 87, 88, 89, 90, 91, 92, 93, 94, 95, 96, 97] (by decide +kernel) (by decide +kernel)
set_option maxRecDepth 20000 in
theorem gX8_planned_X8_plans : GoodIn wsX8_planned (wsV RX8 143 RX8 yX8_plans wsX8_plans) := goodIn_app (goodIn_of _ (by decide +kernel)) ggX8_planned_X8_plans
theorem dX8_planned_0 : decode cX8_planned 0 = .ok (.iload_n 1, 1) := by decide +kernel
theorem dX8_planned_1 : decode cX8_planned 1 = .ok (.ifCond .lt 12, 3) := by decide +kernel
theorem dX8_planned_4 : decode cX8_planned 4 = .ok (.iload_n 2, 1) := by decide +kernel
theorem dX8_planned_5 : decode cX8_planned 5 = .ok (.iconst 0, 1) := by decide +kernel
theorem dX8_planned_6 : decode cX8_planned 6 = .ok (.iconst 1, 1) := by decide +kernel
theorem dX8_planned_7 : decode cX8_planned 7 = .ok (.invokestatic 31, 3) := by decide +kernel
theorem dX8_planned_10 : decode cX8_planned 10 = .ok (.ifCond .ne 6, 3) := by decide +kernel
theorem dX8_planned_13 : decode cX8_planned 13 = .ok (.ldc 35, 2) := by decide +kernel
theorem dX8_planned_15 : decode cX8_planned 15 = .ok (.ireturn, 1) := by decide +kernel
theorem dX8_planned_16 : decode cX8_planned 16 = .ok (.aload_n 0, 1) := by decide +kernel
theorem dX8_planned_17 : decode cX8_planned 17 = .ok (.invokevirtual 143, 3) := by decide +kernel
theorem dX8_planned_20 : decode cX8_planned 20 = .ok (.iload_n 1, 1) := by decide +kernel
theorem dX8_planned_21 : decode cX8_planned 21 = .ok (.aload_n 0, 1) := by decide +kernel
theorem dX8_planned_22 : decode cX8_planned 22 = .ok (.getfield 125, 3) := by decide +kernel
theorem dX8_planned_25 : decode cX8_planned 25 = .ok (.if_icmp .lt 8, 3) := by decide +kernel
theorem dX8_planned_28 : decode cX8_planned 28 = .ok (.ldc 114, 2) := by decide +kernel
theorem dX8_planned_30 : decode cX8_planned 30 = .ok (.goto 22, 3) := by decide +kernel
theorem dX8_planned_33 : decode cX8_planned 33 = .ok (.iload_n 2, 1) := by decide +kernel
theorem dX8_planned_34 : decode cX8_planned 34 = .ok (.ifCond .ne 12, 3) := by decide +kernel
theorem dX8_planned_37 : decode cX8_planned 37 = .ok (.aload_n 0, 1) := by decide +kernel
theorem dX8_planned_38 : decode cX8_planned 38 = .ok (.getfield 22, 3) := by decide +kernel
theorem dX8_planned_41 : decode cX8_planned 41 = .ok (.iload_n 1, 1) := by decide +kernel
theorem dX8_planned_42 : decode cX8_planned 42 = .ok (.iaload, 1) := by decide +kernel
theorem dX8_planned_43 : decode cX8_planned 43 = .ok (.goto 9, 3) := by decide +kernel
theorem dX8_planned_46 : decode cX8_planned 46 = .ok (.aload_n 0, 1) := by decide +kernel
theorem dX8_planned_47 : decode cX8_planned 47 = .ok (.getfield 25, 3) := by decide +kernel
theorem dX8_planned_50 : decode cX8_planned 50 = .ok (.iload_n 1, 1) := by decide +kernel
theorem dX8_planned_51 : decode cX8_planned 51 = .ok (.iaload, 1) := by decide +kernel
theorem dX8_planned_52 : decode cX8_planned 52 = .ok (.ireturn, 1) := by decide +kernel
set_option maxRecDepth 20000 in
theorem ggX8_plan_X8_in : GoodIn wsX8_plan wsX8_in := goodIn_r _ [11] (by decide +kernel) (by decide +kernel)
set_option maxRecDepth 20000 in
theorem gX8_plan_X8_in : GoodIn wsX8_plan (va_wsS RX8 31 yX8_in wsX8_in) := goodIn_app (goodIn_of _ (by decide +kernel)) ggX8_plan_X8_in
set_option maxRecDepth 20000 in
theorem ggX8_plan_X8_plans : GoodIn wsX8_plan wsX8_plans := goodIn_r _ [15, 3, 6, 7, 16, 2, 17, 18, 19, 10, 20, 21, 22, 23, 24, 25, 26, 27, 28, 29, 30, 31, 32, 33, 34, 35, 36, 37, 38, 5, 39, 40, 41, 42, 43, 44, 45, 46, 47, 48, 49, 50, 51, 52, 53, 54, 55, 56, 57, 58, 1, 59, 60, 61, 62, 63, 8, 9, 11, 64, 65, 66, 67, 68, 69, 70, 71, 72, 73, 74, 75, 76, 77, 78, 79, 80, 81, 82, 83, 84, 85, 86, 87, 88, 89, 90, 91, 92, 93, 94, 95, 96, 97] (by decide +kernel) (by decide +kernel)
set_option maxRecDepth 20000 in
theorem gX8_plan_X8_plans : GoodIn wsX8_plan (wsV RX8 143 RX8 yX8_plans wsX8_plans) := goodIn_app (goodIn_of _ (by decide +kernel)) ggX8_plan_X8_plans
theorem dX8_plan_0 : decode cX8_plan 0 = .ok (.iload_n 1, 1) := by decide +kernel
theorem dX8_plan_1 : decode cX8_plan 1 = .ok (.iconst 0, 1) := by decide +kernel
theorem dX8_plan_2 : decode cX8_plan 2 = .ok (.iconst 5, 1) := by decide +kernel
theorem dX8_plan_3 : decode cX8_plan 3 = .ok (.invokestatic 31, 3) := by decide +kernel
theorem dX8_plan_6 : decode cX8_plan 6 = .ok (.ifCond .ne 6, 3) := by decide +kernel
theorem dX8_plan_9 : decode cX8_plan 9 = .ok (.ldc 35, 2) := by decide +kernel
theorem dX8_plan_11 : decode cX8_plan 11 = .ok (.ireturn, 1) := by decide +kernel
theorem dX8_plan_12 : decode cX8_plan 12 = .ok (.aload_n 0, 1) := by decide +kernel
theorem dX8_plan_13 : decode cX8_plan 13 = .ok (.invokevirtual 143, 3) := by decide +kernel
theorem dX8_plan_16 : decode cX8_plan 16 = .ok (.iload_n 1, 1) := by decide +kernel
theorem dX8_plan_17 : decode cX8_plan 17 = .ok (.tableswitch 87 0 4 #[35, 48, 53, 77, 82], 35) := by decide +kernel
theorem dX8_plan_52 : decode cX8_plan 52 = .ok (.aload_n 0, 1) := by decide +kernel
theorem dX8_plan_53 : decode cX8_plan 53 = .ok (.getfield 140, 3) := by decide +kernel
theorem dX8_plan_56 : decode cX8_plan 56 = .ok (.ifCond .ne 7, 3) := by decide +kernel
theorem dX8_plan_59 : decode cX8_plan 59 = .ok (.iconst 1, 1) := by decide +kernel
theorem dX8_plan_60 : decode cX8_plan 60 = .ok (.goto 4, 3) := by decide +kernel
theorem dX8_plan_63 : decode cX8_plan 63 = .ok (.iconst 0, 1) := by decide +kernel
theorem dX8_plan_64 : decode cX8_plan 64 = .ok (.ireturn, 1) := by decide +kernel
theorem dX8_plan_65 : decode cX8_plan 65 = .ok (.aload_n 0, 1) := by decide +kernel
theorem dX8_plan_66 : decode cX8_plan 66 = .ok (.getfield 125, 3) := by decide +kernel
theorem dX8_plan_69 : decode cX8_plan 69 = .ok (.ireturn, 1) := by decide +kernel
theorem dX8_plan_70 : decode cX8_plan 70 = .ok (.aload_n 0, 1) := by decide +kernel
theorem dX8_plan_71 : decode cX8_plan 71 = .ok (.getfield 125, 3) := by decide +kernel
theorem dX8_plan_74 : decode cX8_plan 74 = .ok (.ifCond .ne 8, 3) := by decide +kernel
theorem dX8_plan_77 : decode cX8_plan 77 = .ok (.ldc 114, 2) := by decide +kernel
theorem dX8_plan_79 : decode cX8_plan 79 = .ok (.goto 14, 3) := by decide +kernel
theorem dX8_plan_82 : decode cX8_plan 82 = .ok (.aload_n 0, 1) := by decide +kernel
theorem dX8_plan_83 : decode cX8_plan 83 = .ok (.getfield 25, 3) := by decide +kernel
theorem dX8_plan_86 : decode cX8_plan 86 = .ok (.aload_n 0, 1) := by decide +kernel
theorem dX8_plan_87 : decode cX8_plan 87 = .ok (.getfield 125, 3) := by decide +kernel
theorem dX8_plan_90 : decode cX8_plan 90 = .ok (.iconst 1, 1) := by decide +kernel
theorem dX8_plan_91 : decode cX8_plan 91 = .ok (.isub, 1) := by decide +kernel
theorem dX8_plan_92 : decode cX8_plan 92 = .ok (.iaload, 1) := by decide +kernel
theorem dX8_plan_93 : decode cX8_plan 93 = .ok (.ireturn, 1) := by decide +kernel
theorem dX8_plan_94 : decode cX8_plan 94 = .ok (.aload_n 0, 1) := by decide +kernel
theorem dX8_plan_95 : decode cX8_plan 95 = .ok (.getfield 128, 3) := by decide +kernel
theorem dX8_plan_98 : decode cX8_plan 98 = .ok (.ireturn, 1) := by decide +kernel
theorem dX8_plan_99 : decode cX8_plan 99 = .ok (.aload_n 0, 1) := by decide +kernel
theorem dX8_plan_100 : decode cX8_plan 100 = .ok (.getfield 131, 3) := by decide +kernel
theorem dX8_plan_103 : decode cX8_plan 103 = .ok (.ireturn, 1) := by decide +kernel
theorem dX8_plan_104 : decode cX8_plan 104 = .ok (.aload_n 0, 1) := by decide +kernel
theorem dX8_plan_105 : decode cX8_plan 105 = .ok (.getfield 140, 3) := by decide +kernel
theorem dX8_plan_108 : decode cX8_plan 108 = .ok (.ireturn, 1) := by decide +kernel
set_option maxRecDepth 20000 in
theorem ggX8_often_X8_reason : GoodIn wsX8_often wsX8_reason := goodIn_r _ [6, 1, 7, 8, 9, 5, 10, 11, 12, 13, 14, 15, 16, 17, 18, 19, 20, 21, 22, 23, 24, 25, 26, 27, 28, 29, 30, 31, 32, 33, 34, 35, 36, 37, 38, 39, 40] (by decide +kernel) (by decide +kernel)
set_option maxRecDepth 20000 in
theorem gX8_often_X8_reason : GoodIn wsX8_often (wsV RX8 60 RX8 yX8_reason wsX8_reason) := goodIn_app (goodIn_of _ (by decide +kernel)) ggX8_often_X8_reason
theorem dX8_often_0 : decode cX8_often 0 = .ok (.iconst 0, 1) := by decide +kernel
theorem dX8_often_1 : decode cX8_often 1 = .ok (.istore_n 2, 1) := by decide +kernel
theorem dX8_often_2 : decode cX8_often 2 = .ok (.iconst 0, 1) := by decide +kernel
theorem dX8_often_3 : decode cX8_often 3 = .ok (.istore_n 3, 1) := by decide +kernel
theorem dX8_often_4 : decode cX8_often 4 = .ok (.iload_n 3, 1) := by decide +kernel
theorem dX8_often_5 : decode cX8_often 5 = .ok (.aload_n 0, 1) := by decide +kernel
theorem dX8_often_6 : decode cX8_often 6 = .ok (.getfield 7, 3) := by decide +kernel
theorem dX8_often_9 : decode cX8_often 9 = .ok (.iconst 0, 1) := by decide +kernel
theorem dX8_often_10 : decode cX8_often 10 = .ok (.iaload, 1) := by decide +kernel
theorem dX8_often_11 : decode cX8_often 11 = .ok (.if_icmp .ge 44, 3) := by decide +kernel
theorem dX8_often_14 : decode cX8_often 14 = .ok (.iconst 0, 1) := by decide +kernel
theorem dX8_often_15 : decode cX8_often 15 = .ok (.istore 4, 2) := by decide +kernel
theorem dX8_often_17 : decode cX8_often 17 = .ok (.iload 4, 2) := by decide +kernel
theorem dX8_often_19 : decode cX8_often 19 = .ok (.bipush 28, 2) := by decide +kernel
theorem dX8_often_21 : decode cX8_often 21 = .ok (.if_icmp .ge 28, 3) := by decide +kernel
theorem dX8_often_24 : decode cX8_often 24 = .ok (.iload_n 2, 1) := by decide +kernel
theorem dX8_often_25 : decode cX8_often 25 = .ok (.aload_n 0, 1) := by decide +kernel
theorem dX8_often_26 : decode cX8_often 26 = .ok (.iload_n 3, 1) := by decide +kernel
theorem dX8_often_27 : decode cX8_often 27 = .ok (.iload 4, 2) := by decide +kernel
theorem dX8_often_29 : decode cX8_often 29 = .ok (.invokevirtual 60, 3) := by decide +kernel
theorem dX8_often_32 : decode cX8_often 32 = .ok (.iload_n 1, 1) := by decide +kernel
theorem dX8_often_33 : decode cX8_often 33 = .ok (.if_icmp .ne 7, 3) := by decide +kernel
theorem dX8_often_36 : decode cX8_often 36 = .ok (.iconst 1, 1) := by decide +kernel
theorem dX8_often_37 : decode cX8_often 37 = .ok (.goto 4, 3) := by decide +kernel
theorem dX8_often_40 : decode cX8_often 40 = .ok (.iconst 0, 1) := by decide +kernel
theorem dX8_often_41 : decode cX8_often 41 = .ok (.iadd, 1) := by decide +kernel
theorem dX8_often_42 : decode cX8_often 42 = .ok (.istore_n 2, 1) := by decide +kernel
theorem dX8_often_43 : decode cX8_often 43 = .ok (.iinc 4 1, 3) := by decide +kernel
theorem dX8_often_46 : decode cX8_often 46 = .ok (.goto (-29), 3) := by decide +kernel
theorem dX8_often_49 : decode cX8_often 49 = .ok (.iinc 3 1, 3) := by decide +kernel
theorem dX8_often_52 : decode cX8_often 52 = .ok (.goto (-48), 3) := by decide +kernel
theorem dX8_often_55 : decode cX8_often 55 = .ok (.iload_n 2, 1) := by decide +kernel
theorem dX8_often_56 : decode cX8_often 56 = .ok (.ireturn, 1) := by decide +kernel
set_option maxRecDepth 20000 in
theorem ggX8_worst_X8_in : GoodIn wsX8_worst wsX8_in := goodIn_r _ [6] (by decide +kernel) (by decide +kernel)
set_option maxRecDepth 20000 in
theorem gX8_worst_X8_in : GoodIn wsX8_worst (va_wsS RX8 31 yX8_in wsX8_in) := goodIn_app (goodIn_of _ (by decide +kernel)) ggX8_worst_X8_in
set_option maxRecDepth 20000 in
theorem ggX8_worst_X8_often : GoodIn wsX8_worst wsX8_often := goodIn_r _ [10, 11, 12, 13, 14, 5, 15, 16, 17, 18, 19, 20, 21, 22, 23, 24, 25, 26, 27, 28, 29, 30, 31, 32, 33, 34, 35, 36, 37, 38, 39, 40, 41, 42, 43, 44, 45, 46, 47, 48, 49] (by decide +kernel) (by decide +kernel)
set_option maxRecDepth 20000 in
theorem gX8_worst_X8_often : GoodIn wsX8_worst (wsV RX8 146 RX8 yX8_often wsX8_often) := goodIn_app (goodIn_of _ (by decide +kernel)) ggX8_worst_X8_often
theorem dX8_worst_0 : decode cX8_worst 0 = .ok (.iload_n 1, 1) := by decide +kernel
theorem dX8_worst_1 : decode cX8_worst 1 = .ok (.iconst 0, 1) := by decide +kernel
theorem dX8_worst_2 : decode cX8_worst 2 = .ok (.iconst 1, 1) := by decide +kernel
theorem dX8_worst_3 : decode cX8_worst 3 = .ok (.invokestatic 31, 3) := by decide +kernel
theorem dX8_worst_6 : decode cX8_worst 6 = .ok (.ifCond .ne 6, 3) := by decide +kernel
theorem dX8_worst_9 : decode cX8_worst 9 = .ok (.ldc 35, 2) := by decide +kernel
theorem dX8_worst_11 : decode cX8_worst 11 = .ok (.ireturn, 1) := by decide +kernel
theorem dX8_worst_12 : decode cX8_worst 12 = .ok (.iconst (-1), 1) := by decide +kernel
theorem dX8_worst_13 : decode cX8_worst 13 = .ok (.istore_n 2, 1) := by decide +kernel
theorem dX8_worst_14 : decode cX8_worst 14 = .ok (.iconst 0, 1) := by decide +kernel
theorem dX8_worst_15 : decode cX8_worst 15 = .ok (.istore_n 3, 1) := by decide +kernel
theorem dX8_worst_16 : decode cX8_worst 16 = .ok (.iconst 3, 1) := by decide +kernel
theorem dX8_worst_17 : decode cX8_worst 17 = .ok (.istore 4, 2) := by decide +kernel
theorem dX8_worst_19 : decode cX8_worst 19 = .ok (.iload 4, 2) := by decide +kernel
theorem dX8_worst_21 : decode cX8_worst 21 = .ok (.bipush 8, 2) := by decide +kernel
theorem dX8_worst_23 : decode cX8_worst 23 = .ok (.if_icmp .gt 43, 3) := by decide +kernel
theorem dX8_worst_26 : decode cX8_worst 26 = .ok (.aload_n 0, 1) := by decide +kernel
theorem dX8_worst_27 : decode cX8_worst 27 = .ok (.iload 4, 2) := by decide +kernel
theorem dX8_worst_29 : decode cX8_worst 29 = .ok (.invokevirtual 146, 3) := by decide +kernel
theorem dX8_worst_32 : decode cX8_worst 32 = .ok (.istore 5, 2) := by decide +kernel
theorem dX8_worst_34 : decode cX8_worst 34 = .ok (.iload 5, 2) := by decide +kernel
theorem dX8_worst_36 : decode cX8_worst 36 = .ok (.iload_n 3, 1) := by decide +kernel
theorem dX8_worst_37 : decode cX8_worst 37 = .ok (.if_icmp .le 8, 3) := by decide +kernel
theorem dX8_worst_40 : decode cX8_worst 40 = .ok (.iload 4, 2) := by decide +kernel
theorem dX8_worst_42 : decode cX8_worst 42 = .ok (.goto 4, 3) := by decide +kernel
theorem dX8_worst_45 : decode cX8_worst 45 = .ok (.iload_n 2, 1) := by decide +kernel
theorem dX8_worst_46 : decode cX8_worst 46 = .ok (.istore_n 2, 1) := by decide +kernel
theorem dX8_worst_47 : decode cX8_worst 47 = .ok (.iload 5, 2) := by decide +kernel
theorem dX8_worst_49 : decode cX8_worst 49 = .ok (.iload_n 3, 1) := by decide +kernel
theorem dX8_worst_50 : decode cX8_worst 50 = .ok (.if_icmp .le 8, 3) := by decide +kernel
theorem dX8_worst_53 : decode cX8_worst 53 = .ok (.iload 5, 2) := by decide +kernel
theorem dX8_worst_55 : decode cX8_worst 55 = .ok (.goto 4, 3) := by decide +kernel
theorem dX8_worst_58 : decode cX8_worst 58 = .ok (.iload_n 3, 1) := by decide +kernel
theorem dX8_worst_59 : decode cX8_worst 59 = .ok (.istore_n 3, 1) := by decide +kernel
theorem dX8_worst_60 : decode cX8_worst 60 = .ok (.iinc 4 1, 3) := by decide +kernel
theorem dX8_worst_63 : decode cX8_worst 63 = .ok (.goto (-44), 3) := by decide +kernel
theorem dX8_worst_66 : decode cX8_worst 66 = .ok (.iload_n 2, 1) := by decide +kernel
theorem dX8_worst_67 : decode cX8_worst 67 = .ok (.ifCond .ge 8, 3) := by decide +kernel
theorem dX8_worst_70 : decode cX8_worst 70 = .ok (.ldc 114, 2) := by decide +kernel
theorem dX8_worst_72 : decode cX8_worst 72 = .ok (.goto 12, 3) := by decide +kernel
theorem dX8_worst_75 : decode cX8_worst 75 = .ok (.iload_n 1, 1) := by decide +kernel
theorem dX8_worst_76 : decode cX8_worst 76 = .ok (.ifCond .ne 7, 3) := by decide +kernel
theorem dX8_worst_79 : decode cX8_worst 79 = .ok (.iload_n 2, 1) := by decide +kernel
theorem dX8_worst_80 : decode cX8_worst 80 = .ok (.goto 4, 3) := by decide +kernel
theorem dX8_worst_83 : decode cX8_worst 83 = .ok (.iload_n 3, 1) := by decide +kernel
theorem dX8_worst_84 : decode cX8_worst 84 = .ok (.ireturn, 1) := by decide +kernel
set_option maxRecDepth 20000 in
theorem ggX8_count_X8_in : GoodIn wsX8_count wsX8_in := goodIn_r _ [8] (by decide +kernel) (by decide +kernel)
set_option maxRecDepth 20000 in
theorem gX8_count_X8_in : GoodIn wsX8_count (va_wsS RX8 31 yX8_in wsX8_in) := goodIn_app (goodIn_of _ (by decide +kernel)) ggX8_count_X8_in
theorem dX8_count_0 : decode cX8_count 0 = .ok (.iload_n 1, 1) := by decide +kernel
theorem dX8_count_1 : decode cX8_count 1 = .ok (.lookupswitch 37 #[(8, 27), (9, 32)], 27) := by decide +kernel
theorem dX8_count_28 : decode cX8_count 28 = .ok (.aload_n 0, 1) := by decide +kernel
theorem dX8_count_29 : decode cX8_count 29 = .ok (.getfield 39, 3) := by decide +kernel
theorem dX8_count_32 : decode cX8_count 32 = .ok (.ireturn, 1) := by decide +kernel
theorem dX8_count_33 : decode cX8_count 33 = .ok (.aload_n 0, 1) := by decide +kernel
theorem dX8_count_34 : decode cX8_count 34 = .ok (.getfield 149, 3) := by decide +kernel
theorem dX8_count_37 : decode cX8_count 37 = .ok (.ireturn, 1) := by decide +kernel
theorem dX8_count_38 : decode cX8_count 38 = .ok (.iload_n 1, 1) := by decide +kernel
theorem dX8_count_39 : decode cX8_count 39 = .ok (.iconst 0, 1) := by decide +kernel
theorem dX8_count_40 : decode cX8_count 40 = .ok (.bipush 7, 2) := by decide +kernel
theorem dX8_count_42 : decode cX8_count 42 = .ok (.invokestatic 31, 3) := by decide +kernel
theorem dX8_count_45 : decode cX8_count 45 = .ok (.ifCond .eq 12, 3) := by decide +kernel
theorem dX8_count_48 : decode cX8_count 48 = .ok (.aload_n 0, 1) := by decide +kernel
theorem dX8_count_49 : decode cX8_count 49 = .ok (.getfield 7, 3) := by decide +kernel
theorem dX8_count_52 : decode cX8_count 52 = .ok (.iload_n 1, 1) := by decide +kernel
theorem dX8_count_53 : decode cX8_count 53 = .ok (.iaload, 1) := by decide +kernel
theorem dX8_count_54 : decode cX8_count 54 = .ok (.goto 31, 3) := by decide +kernel
theorem dX8_count_57 : decode cX8_count 57 = .ok (.iload_n 1, 1) := by decide +kernel
theorem dX8_count_58 : decode cX8_count 58 = .ok (.bipush 20, 2) := by decide +kernel
theorem dX8_count_60 : decode cX8_count 60 = .ok (.bipush 22, 2) := by decide +kernel
theorem dX8_count_62 : decode cX8_count 62 = .ok (.invokestatic 31, 3) := by decide +kernel
theorem dX8_count_65 : decode cX8_count 65 = .ok (.ifCond .eq 18, 3) := by decide +kernel
theorem dX8_count_68 : decode cX8_count 68 = .ok (.aload_n 0, 1) := by decide +kernel
theorem dX8_count_69 : decode cX8_count 69 = .ok (.getfield 7, 3) := by decide +kernel
theorem dX8_count_72 : decode cX8_count 72 = .ok (.bipush 8, 2) := by decide +kernel
theorem dX8_count_74 : decode cX8_count 74 = .ok (.iload_n 1, 1) := by decide +kernel
theorem dX8_count_75 : decode cX8_count 75 = .ok (.iadd, 1) := by decide +kernel
theorem dX8_count_76 : decode cX8_count 76 = .ok (.bipush 20, 2) := by decide +kernel
theorem dX8_count_78 : decode cX8_count 78 = .ok (.isub, 1) := by decide +kernel
theorem dX8_count_79 : decode cX8_count 79 = .ok (.iaload, 1) := by decide +kernel
theorem dX8_count_80 : decode cX8_count 80 = .ok (.goto 5, 3) := by decide +kernel
theorem dX8_count_83 : decode cX8_count 83 = .ok (.ldc 35, 2) := by decide +kernel
theorem dX8_count_85 : decode cX8_count 85 = .ok (.ireturn, 1) := by decide +kernel
theorem dX8_undo_0 : decode cX8_undo 0 = .ok (.aload_n 0, 1) := by decide +kernel
theorem dX8_undo_1 : decode cX8_undo 1 = .ok (.getfield 39, 3) := by decide +kernel
theorem dX8_undo_4 : decode cX8_undo 4 = .ok (.ifCond .ne 6, 3) := by decide +kernel
theorem dX8_undo_7 : decode cX8_undo 7 = .ok (.ldc 63, 2) := by decide +kernel
