theorem dX0_copyFrom_46 : decode cX0_copyFrom 46 = .ok (.getfield 29, 3) := by decide +kernel
theorem dX0_copyFrom_49 : decode cX0_copyFrom 49 = .ok (.putfield 29, 3) := by decide +kernel
theorem dX0_copyFrom_52 : decode cX0_copyFrom 52 = .ok (.aload_n 0, 1) := by decide +kernel
theorem dX0_copyFrom_53 : decode cX0_copyFrom 53 = .ok (.aload_n 1, 1) := by decide +kernel
theorem dX0_copyFrom_54 : decode cX0_copyFrom 54 = .ok (.getfield 33, 3) := by decide +kernel
theorem dX0_copyFrom_57 : decode cX0_copyFrom 57 = .ok (.putfield 33, 3) := by decide +kernel
theorem dX0_copyFrom_60 : decode cX0_copyFrom 60 = .ok (.aload_n 0, 1) := by decide +kernel
theorem dX0_copyFrom_61 : decode cX0_copyFrom 61 = .ok (.aload_n 1, 1) := by decide +kernel
theorem dX0_copyFrom_62 : decode cX0_copyFrom 62 = .ok (.getfield 36, 3) := by decide +kernel
theorem dX0_copyFrom_65 : decode cX0_copyFrom 65 = .ok (.putfield 36, 3) := by decide +kernel
theorem dX0_copyFrom_68 : decode cX0_copyFrom 68 = .ok (.aload_n 0, 1) := by decide +kernel
theorem dX0_copyFrom_69 : decode cX0_copyFrom 69 = .ok (.aload_n 1, 1) := by decide +kernel
theorem dX0_copyFrom_70 : decode cX0_copyFrom 70 = .ok (.getfield 39, 3) := by decide +kernel
theorem dX0_copyFrom_73 : decode cX0_copyFrom 73 = .ok (.putfield 39, 3) := by decide +kernel
theorem dX0_copyFrom_76 : decode cX0_copyFrom 76 = .ok (.aload_n 0, 1) := by decide +kernel
theorem dX0_copyFrom_77 : decode cX0_copyFrom 77 = .ok (.aload_n 1, 1) := by decide +kernel
theorem dX0_copyFrom_78 : decode cX0_copyFrom 78 = .ok (.getfield 42, 3) := by decide +kernel
theorem dX0_copyFrom_81 : decode cX0_copyFrom 81 = .ok (.putfield 42, 3) := by decide +kernel
theorem dX0_copyFrom_84 : decode cX0_copyFrom 84 = .ok (.aload_n 0, 1) := by decide +kernel
theorem dX0_copyFrom_85 : decode cX0_copyFrom 85 = .ok (.aload_n 1, 1) := by decide +kernel
theorem dX0_copyFrom_86 : decode cX0_copyFrom 86 = .ok (.getfield 45, 3) := by decide +kernel
theorem dX0_copyFrom_89 : decode cX0_copyFrom 89 = .ok (.putfield 45, 3) := by decide +kernel
theorem dX0_copyFrom_92 : decode cX0_copyFrom 92 = .ok (.aload_n 0, 1) := by decide +kernel
theorem dX0_copyFrom_93 : decode cX0_copyFrom 93 = .ok (.aload_n 1, 1) := by decide +kernel
theorem dX0_copyFrom_94 : decode cX0_copyFrom 94 = .ok (.getfield 48, 3) := by decide +kernel
theorem dX0_copyFrom_97 : decode cX0_copyFrom 97 = .ok (.putfield 48, 3) := by decide +kernel
theorem dX0_copyFrom_100 : decode cX0_copyFrom 100 = .ok (.aload_n 0, 1) := by decide +kernel
theorem dX0_copyFrom_101 : decode cX0_copyFrom 101 = .ok (.aload_n 1, 1) := by decide +kernel
theorem dX0_copyFrom_102 : decode cX0_copyFrom 102 = .ok (.getfield 51, 3) := by decide +kernel
theorem dX0_copyFrom_105 : decode cX0_copyFrom 105 = .ok (.putfield 51, 3) := by decide +kernel
theorem dX0_copyFrom_108 : decode cX0_copyFrom 108 = .ok (.return_, 1) := by decide +kernel
theorem dX0_hasCard_0 : decode cX0_hasCard 0 = .ok (.iload_n 1, 1) := by decide +kernel
theorem dX0_hasCard_1 : decode cX0_hasCard 1 = .ok (.ifCond .lt 15, 3) := by decide +kernel
theorem dX0_hasCard_4 : decode cX0_hasCard 4 = .ok (.iload_n 1, 1) := by decide +kernel
theorem dX0_hasCard_5 : decode cX0_hasCard 5 = .ok (.aload_n 0, 1) := by decide +kernel
theorem dX0_hasCard_6 : decode cX0_hasCard 6 = .ok (.getfield 29, 3) := by decide +kernel
theorem dX0_hasCard_9 : decode cX0_hasCard 9 = .ok (.if_icmp .ge 7, 3) := by decide +kernel
theorem dX0_hasCard_12 : decode cX0_hasCard 12 = .ok (.iconst 1, 1) := by decide +kernel
theorem dX0_hasCard_13 : decode cX0_hasCard 13 = .ok (.goto 4, 3) := by decide +kernel
theorem dX0_hasCard_16 : decode cX0_hasCard 16 = .ok (.iconst 0, 1) := by decide +kernel
theorem dX0_hasCard_17 : decode cX0_hasCard 17 = .ok (.ireturn, 1) := by decide +kernel
set_option maxRecDepth 20000 in
theorem ggX0_addCard_X0_areWeatherNumbers : GoodIn wsX0_addCard wsX0_areWeatherNumbers := goodIn_r _ [8, 9, 10, 11] (by decide +kernel) (by decide +kernel)
set_option maxRecDepth 20000 in
theorem gX0_addCard_X0_areWeatherNumbers : GoodIn wsX0_addCard (va_wsS RX0 66 yX0_areWeatherNumbers wsX0_areWeatherNumbers) := goodIn_app (goodIn_of _ (by decide +kernel)) ggX0_addCard_X0_areWeatherNumbers
set_option maxRecDepth 20000 in
theorem ggX0_addCard_X7_within : GoodIn wsX0_addCard wsX7_within := goodIn_r _ [11] (by decide +kernel) (by decide +kernel)
set_option maxRecDepth 20000 in
theorem gX0_addCard_X7_within_n70 : GoodIn wsX0_addCard (wsX7_within) := ggX0_addCard_X7_within
set_option maxRecDepth 20000 in
theorem ggX0_addCard_X0_hasCard : GoodIn wsX0_addCard wsX0_hasCard := goodIn_r _ [15, 2, 23, 24, 25, 26, 27, 28, 29, 30, 31, 32, 33, 34] (by decide +kernel) (by decide +kernel)
set_option maxRecDepth 20000 in
theorem gX0_addCard_X0_hasCard : GoodIn wsX0_addCard (wsV RX0 74 RX0 yX0_hasCard wsX0_hasCard) := goodIn_app (goodIn_of _ (by decide +kernel)) ggX0_addCard_X0_hasCard
set_option maxRecDepth 20000 in
theorem ggX0_addCard_X5_put : GoodIn wsX0_addCard wsX5_put := goodIn_r _ [20, 21, 22, 35, 36] (by decide +kernel) (by decide +kernel)
set_option maxRecDepth 20000 in
theorem gX0_addCard_X5_put : GoodIn wsX0_addCard (wsV RX0 58 RX5 yX5_put wsX5_put) := goodIn_app (goodIn_of _ (by decide +kernel)) ggX0_addCard_X5_put
theorem dX0_addCard_0 : decode cX0_addCard 0 = .ok (.iload_n 1, 1) := by decide +kernel
theorem dX0_addCard_1 : decode cX0_addCard 1 = .ok (.iload_n 2, 1) := by decide +kernel
theorem dX0_addCard_2 : decode cX0_addCard 2 = .ok (.iload_n 3, 1) := by decide +kernel
theorem dX0_addCard_3 : decode cX0_addCard 3 = .ok (.invokestatic 66, 3) := by decide +kernel
theorem dX0_addCard_6 : decode cX0_addCard 6 = .ok (.ifCond .eq 24, 3) := by decide +kernel
theorem dX0_addCard_9 : decode cX0_addCard 9 = .ok (.iload 4, 2) := by decide +kernel
theorem dX0_addCard_11 : decode cX0_addCard 11 = .ok (.iconst 0, 1) := by decide +kernel
theorem dX0_addCard_12 : decode cX0_addCard 12 = .ok (.iconst 3, 1) := by decide +kernel
theorem dX0_addCard_13 : decode cX0_addCard 13 = .ok (.invokestatic 70, 3) := by decide +kernel
theorem dX0_addCard_16 : decode cX0_addCard 16 = .ok (.ifCond .eq 14, 3) := by decide +kernel
theorem dX0_addCard_19 : decode cX0_addCard 19 = .ok (.iload 5, 2) := by decide +kernel
theorem dX0_addCard_21 : decode cX0_addCard 21 = .ok (.iconst 1, 1) := by decide +kernel
theorem dX0_addCard_22 : decode cX0_addCard 22 = .ok (.bipush 9, 2) := by decide +kernel
theorem dX0_addCard_24 : decode cX0_addCard 24 = .ok (.invokestatic 70, 3) := by decide +kernel
theorem dX0_addCard_27 : decode cX0_addCard 27 = .ok (.ifCond .ne 6, 3) := by decide +kernel
theorem dX0_addCard_30 : decode cX0_addCard 30 = .ok (.ldc 73, 2) := by decide +kernel
theorem dX0_addCard_32 : decode cX0_addCard 32 = .ok (.ireturn, 1) := by decide +kernel
theorem dX0_addCard_33 : decode cX0_addCard 33 = .ok (.iload 6, 2) := by decide +kernel
theorem dX0_addCard_35 : decode cX0_addCard 35 = .ok (.iconst (-1), 1) := by decide +kernel
theorem dX0_addCard_36 : decode cX0_addCard 36 = .ok (.if_icmp .eq 15, 3) := by decide +kernel
theorem dX0_addCard_39 : decode cX0_addCard 39 = .ok (.aload_n 0, 1) := by decide +kernel
theorem dX0_addCard_40 : decode cX0_addCard 40 = .ok (.iload 6, 2) := by decide +kernel
theorem dX0_addCard_42 : decode cX0_addCard 42 = .ok (.invokevirtual 74, 3) := by decide +kernel
theorem dX0_addCard_45 : decode cX0_addCard 45 = .ok (.ifCond .ne 6, 3) := by decide +kernel
theorem dX0_addCard_48 : decode cX0_addCard 48 = .ok (.ldc 73, 2) := by decide +kernel
theorem dX0_addCard_50 : decode cX0_addCard 50 = .ok (.ireturn, 1) := by decide +kernel
theorem dX0_addCard_51 : decode cX0_addCard 51 = .ok (.aload_n 0, 1) := by decide +kernel
theorem dX0_addCard_52 : decode cX0_addCard 52 = .ok (.getfield 29, 3) := by decide +kernel
theorem dX0_addCard_55 : decode cX0_addCard 55 = .ok (.bipush 12, 2) := by decide +kernel
theorem dX0_addCard_57 : decode cX0_addCard 57 = .ok (.if_icmp .lt 6, 3) := by decide +kernel
theorem dX0_addCard_60 : decode cX0_addCard 60 = .ok (.ldc 78, 2) := by decide +kernel
theorem dX0_addCard_62 : decode cX0_addCard 62 = .ok (.ireturn, 1) := by decide +kernel
theorem dX0_addCard_63 : decode cX0_addCard 63 = .ok (.aload_n 0, 1) := by decide +kernel
theorem dX0_addCard_64 : decode cX0_addCard 64 = .ok (.getfield 29, 3) := by decide +kernel
theorem dX0_addCard_67 : decode cX0_addCard 67 = .ok (.istore 7, 2) := by decide +kernel
theorem dX0_addCard_69 : decode cX0_addCard 69 = .ok (.aload_n 0, 1) := by decide +kernel
theorem dX0_addCard_70 : decode cX0_addCard 70 = .ok (.getfield 14, 3) := by decide +kernel
theorem dX0_addCard_73 : decode cX0_addCard 73 = .ok (.iload 7, 2) := by decide +kernel
theorem dX0_addCard_75 : decode cX0_addCard 75 = .ok (.iconst 0, 1) := by decide +kernel
theorem dX0_addCard_76 : decode cX0_addCard 76 = .ok (.iload_n 1, 1) := by decide +kernel
theorem dX0_addCard_77 : decode cX0_addCard 77 = .ok (.invokevirtual 58, 3) := by decide +kernel
theorem dX0_addCard_80 : decode cX0_addCard 80 = .ok (.aload_n 0, 1) := by decide +kernel
theorem dX0_addCard_81 : decode cX0_addCard 81 = .ok (.getfield 14, 3) := by decide +kernel
theorem dX0_addCard_84 : decode cX0_addCard 84 = .ok (.iload 7, 2) := by decide +kernel
theorem dX0_addCard_86 : decode cX0_addCard 86 = .ok (.iconst 1, 1) := by decide +kernel
theorem dX0_addCard_87 : decode cX0_addCard 87 = .ok (.iload_n 2, 1) := by decide +kernel
theorem dX0_addCard_88 : decode cX0_addCard 88 = .ok (.invokevirtual 58, 3) := by decide +kernel
theorem dX0_addCard_91 : decode cX0_addCard 91 = .ok (.aload_n 0, 1) := by decide +kernel
theorem dX0_addCard_92 : decode cX0_addCard 92 = .ok (.getfield 14, 3) := by decide +kernel
theorem dX0_addCard_95 : decode cX0_addCard 95 = .ok (.iload 7, 2) := by decide +kernel
theorem dX0_addCard_97 : decode cX0_addCard 97 = .ok (.iconst 2, 1) := by decide +kernel
theorem dX0_addCard_98 : decode cX0_addCard 98 = .ok (.iload_n 3, 1) := by decide +kernel
theorem dX0_addCard_99 : decode cX0_addCard 99 = .ok (.invokevirtual 58, 3) := by decide +kernel
theorem dX0_addCard_102 : decode cX0_addCard 102 = .ok (.aload_n 0, 1) := by decide +kernel
theorem dX0_addCard_103 : decode cX0_addCard 103 = .ok (.getfield 14, 3) := by decide +kernel
theorem dX0_addCard_106 : decode cX0_addCard 106 = .ok (.iload 7, 2) := by decide +kernel
theorem dX0_addCard_108 : decode cX0_addCard 108 = .ok (.iconst 3, 1) := by decide +kernel
theorem dX0_addCard_109 : decode cX0_addCard 109 = .ok (.iload 4, 2) := by decide +kernel
theorem dX0_addCard_111 : decode cX0_addCard 111 = .ok (.invokevirtual 58, 3) := by decide +kernel
theorem dX0_addCard_114 : decode cX0_addCard 114 = .ok (.aload_n 0, 1) := by decide +kernel
theorem dX0_addCard_115 : decode cX0_addCard 115 = .ok (.getfield 14, 3) := by decide +kernel
theorem dX0_addCard_118 : decode cX0_addCard 118 = .ok (.iload 7, 2) := by decide +kernel
theorem dX0_addCard_120 : decode cX0_addCard 120 = .ok (.iconst 4, 1) := by decide +kernel
theorem dX0_addCard_121 : decode cX0_addCard 121 = .ok (.iload 5, 2) := by decide +kernel
theorem dX0_addCard_123 : decode cX0_addCard 123 = .ok (.invokevirtual 58, 3) := by decide +kernel
theorem dX0_addCard_126 : decode cX0_addCard 126 = .ok (.aload_n 0, 1) := by decide +kernel
theorem dX0_addCard_127 : decode cX0_addCard 127 = .ok (.getfield 14, 3) := by decide +kernel
theorem dX0_addCard_130 : decode cX0_addCard 130 = .ok (.iload 7, 2) := by decide +kernel
theorem dX0_addCard_132 : decode cX0_addCard 132 = .ok (.iconst 5, 1) := by decide +kernel
theorem dX0_addCard_133 : decode cX0_addCard 133 = .ok (.iload 6, 2) := by decide +kernel
theorem dX0_addCard_135 : decode cX0_addCard 135 = .ok (.invokevirtual 58, 3) := by decide +kernel
theorem dX0_addCard_138 : decode cX0_addCard 138 = .ok (.aload_n 0, 1) := by decide +kernel
theorem dX0_addCard_139 : decode cX0_addCard 139 = .ok (.getfield 14, 3) := by decide +kernel
theorem dX0_addCard_142 : decode cX0_addCard 142 = .ok (.iload 7, 2) := by decide +kernel
theorem dX0_addCard_144 : decode cX0_addCard 144 = .ok (.bipush 6, 2) := by decide +kernel
theorem dX0_addCard_146 : decode cX0_addCard 146 = .ok (.iconst 0, 1) := by decide +kernel
theorem dX0_addCard_147 : decode cX0_addCard 147 = .ok (.invokevirtual 58, 3) := by decide +kernel
theorem dX0_addCard_150 : decode cX0_addCard 150 = .ok (.aload_n 0, 1) := by decide +kernel
theorem dX0_addCard_151 : decode cX0_addCard 151 = .ok (.getfield 14, 3) := by decide +kernel
theorem dX0_addCard_154 : decode cX0_addCard 154 = .ok (.iload 7, 2) := by decide +kernel
theorem dX0_addCard_156 : decode cX0_addCard 156 = .ok (.bipush 7, 2) := by decide +kernel
theorem dX0_addCard_158 : decode cX0_addCard 158 = .ok (.iconst 0, 1) := by decide +kernel
theorem dX0_addCard_159 : decode cX0_addCard 159 = .ok (.invokevirtual 58, 3) := by decide +kernel
theorem dX0_addCard_162 : decode cX0_addCard 162 = .ok (.aload_n 0, 1) := by decide +kernel
theorem dX0_addCard_163 : decode cX0_addCard 163 = .ok (.dup, 1) := by decide +kernel
theorem dX0_addCard_164 : decode cX0_addCard 164 = .ok (.getfield 29, 3) := by decide +kernel
theorem dX0_addCard_167 : decode cX0_addCard 167 = .ok (.iconst 1, 1) := by decide +kernel
theorem dX0_addCard_168 : decode cX0_addCard 168 = .ok (.iadd, 1) := by decide +kernel
theorem dX0_addCard_169 : decode cX0_addCard 169 = .ok (.putfield 29, 3) := by decide +kernel
theorem dX0_addCard_172 : decode cX0_addCard 172 = .ok (.iload 7, 2) := by decide +kernel
theorem dX0_addCard_174 : decode cX0_addCard 174 = .ok (.ireturn, 1) := by decide +kernel
set_option maxRecDepth 20000 in
theorem ggX0_tellWeather_X7_within : GoodIn wsX0_tellWeather wsX7_within := goodIn_r _ [4] (by decide +kernel) (by decide +kernel)
set_option maxRecDepth 20000 in
theorem gX0_tellWeather_X7_within_n70 : GoodIn wsX0_tellWeather (wsX7_within) := ggX0_tellWeather_X7_within
set_option maxRecDepth 20000 in
theorem ggX0_tellWeather_X0_areWeatherNumbers : GoodIn wsX0_tellWeather wsX0_areWeatherNumbers := goodIn_r _ [8, 2, 3, 4] (by decide +kernel) (by decide +kernel)
set_option maxRecDepth 20000 in
theorem gX0_tellWeather_X0_areWeatherNumbers : GoodIn wsX0_tellWeather (va_wsS RX0 66 yX0_areWeatherNumbers wsX0_areWeatherNumbers) := goodIn_app (goodIn_of _ (by decide +kernel)) ggX0_tellWeather_X0_areWeatherNumbers
set_option maxRecDepth 20000 in
theorem ggX0_tellWeather_X0_putWeather : GoodIn wsX0_tellWeather wsX0_putWeather := goodIn_r _ [12, 13, 14, 15, 16, 17, 18, 19, 20, 42, 43, 44, 45, 46, 47, 48, 49, 50, 51, 52, 53, 54, 55] (by decide +kernel) (by decide +kernel)
set_option maxRecDepth 20000 in
theorem gX0_tellWeather_X0_putWeather : GoodIn wsX0_tellWeather (wsV RX0 54 RX0 yX0_putWeather wsX0_putWeather) := goodIn_app (goodIn_of _ (by decide +kernel)) ggX0_tellWeather_X0_putWeather
set_option maxRecDepth 20000 in
theorem ggX0_tellWeather_X0_cardsForWeather : GoodIn wsX0_tellWeather wsX0_cardsForWeather := goodIn_r _ [24, 25, 26, 27, 28, 7, 29, 13, 30, 31, 32, 33, 17, 34, 19, 20, 42, 43, 44, 45, 46, 47, 48, 49, 50, 51, 52, 53, 54, 55] (by decide +kernel) (by decide +kernel)
set_option maxRecDepth 20000 in
theorem gX0_tellWeather_X0_cardsForWeather : GoodIn wsX0_tellWeather (wsV RX0 79 RX0 yX0_cardsForWeather wsX0_cardsForWeather) := goodIn_app (goodIn_of _ (by decide +kernel)) ggX0_tellWeather_X0_cardsForWeather
set_option maxRecDepth 20000 in
theorem ggX0_tellWeather_J6_bitCount_0f7a4 : GoodIn wsX0_tellWeather wsJ6_bitCount_0f7a4 := goodIn_r _ [38, 39, 40, 41] (by decide +kernel) (by decide +kernel)
set_option maxRecDepth 20000 in
theorem gX0_tellWeather_J6_bitCount_0f7a4 : GoodIn wsX0_tellWeather (va_wsS RX0 83 yJ6_bitCount_0f7a4 wsJ6_bitCount_0f7a4) := goodIn_app (goodIn_of _ (by decide +kernel)) ggX0_tellWeather_J6_bitCount_0f7a4
theorem dX0_tellWeather_0 : decode cX0_tellWeather 0 = .ok (.iload_n 1, 1) := by decide +kernel
theorem dX0_tellWeather_1 : decode cX0_tellWeather 1 = .ok (.iconst 0, 1) := by decide +kernel
theorem dX0_tellWeather_2 : decode cX0_tellWeather 2 = .ok (.bipush 27, 2) := by decide +kernel
theorem dX0_tellWeather_4 : decode cX0_tellWeather 4 = .ok (.invokestatic 70, 3) := by decide +kernel
theorem dX0_tellWeather_7 : decode cX0_tellWeather 7 = .ok (.ifCond .eq 13, 3) := by decide +kernel
theorem dX0_tellWeather_10 : decode cX0_tellWeather 10 = .ok (.iload_n 2, 1) := by decide +kernel
theorem dX0_tellWeather_11 : decode cX0_tellWeather 11 = .ok (.iload_n 3, 1) := by decide +kernel
theorem dX0_tellWeather_12 : decode cX0_tellWeather 12 = .ok (.iload 4, 2) := by decide +kernel
theorem dX0_tellWeather_14 : decode cX0_tellWeather 14 = .ok (.invokestatic 66, 3) := by decide +kernel
theorem dX0_tellWeather_17 : decode cX0_tellWeather 17 = .ok (.ifCond .ne 6, 3) := by decide +kernel
theorem dX0_tellWeather_20 : decode cX0_tellWeather 20 = .ok (.ldc 73, 2) := by decide +kernel
theorem dX0_tellWeather_22 : decode cX0_tellWeather 22 = .ok (.ireturn, 1) := by decide +kernel
theorem dX0_tellWeather_23 : decode cX0_tellWeather 23 = .ok (.aload_n 0, 1) := by decide +kernel
theorem dX0_tellWeather_24 : decode cX0_tellWeather 24 = .ok (.iload_n 1, 1) := by decide +kernel
theorem dX0_tellWeather_25 : decode cX0_tellWeather 25 = .ok (.iload_n 2, 1) := by decide +kernel
theorem dX0_tellWeather_26 : decode cX0_tellWeather 26 = .ok (.iload_n 3, 1) := by decide +kernel
theorem dX0_tellWeather_27 : decode cX0_tellWeather 27 = .ok (.iload 4, 2) := by decide +kernel
theorem dX0_tellWeather_29 : decode cX0_tellWeather 29 = .ok (.invokevirtual 54, 3) := by decide +kernel
theorem dX0_tellWeather_32 : decode cX0_tellWeather 32 = .ok (.aload_n 0, 1) := by decide +kernel
theorem dX0_tellWeather_33 : decode cX0_tellWeather 33 = .ok (.iload_n 1, 1) := by decide +kernel
theorem dX0_tellWeather_34 : decode cX0_tellWeather 34 = .ok (.invokevirtual 79, 3) := by decide +kernel
theorem dX0_tellWeather_37 : decode cX0_tellWeather 37 = .ok (.invokestatic 83, 3) := by decide +kernel
theorem dX0_tellWeather_40 : decode cX0_tellWeather 40 = .ok (.ireturn, 1) := by decide +kernel
set_option maxRecDepth 20000 in
theorem ggX0_flyCard_X0_hasCard : GoodIn wsX0_flyCard wsX0_hasCard := goodIn_r _ [8, 9, 61, 62, 63, 64, 65, 66, 67, 68, 69, 70, 71, 72] (by decide +kernel) (by decide +kernel)
set_option maxRecDepth 20000 in
theorem gX0_flyCard_X0_hasCard : GoodIn wsX0_flyCard (wsV RX0 74 RX0 yX0_hasCard wsX0_hasCard) := goodIn_app (goodIn_of _ (by decide +kernel)) ggX0_flyCard_X0_hasCard
set_option maxRecDepth 20000 in
theorem ggX0_flyCard_X7_within : GoodIn wsX0_flyCard wsX7_within := goodIn_r _ [12] (by decide +kernel) (by decide +kernel)
set_option maxRecDepth 20000 in
theorem gX0_flyCard_X7_within_n70 : GoodIn wsX0_flyCard (wsX7_within) := ggX0_flyCard_X7_within
set_option maxRecDepth 20000 in
theorem ggX0_flyCard_X0_reasonAgainst : GoodIn wsX0_flyCard wsX0_reasonAgainst := goodIn_r _ [16, 17, 18, 19, 20, 21, 7, 22, 23, 24, 25, 26, 27, 28, 29, 30, 31, 32, 33, 34, 35, 36, 37, 38, 3, 39, 40, 41, 42, 43, 44, 61, 62, 63, 64, 65, 66, 67, 68, 69, 70, 71, 72, 73, 74] (by decide +kernel) (by decide +kernel)
set_option maxRecDepth 20000 in
theorem gX0_flyCard_X0_reasonAgainst : GoodIn wsX0_flyCard (wsV RX0 88 RX0 yX0_reasonAgainst wsX0_reasonAgainst) := goodIn_app (goodIn_of _ (by decide +kernel)) ggX0_flyCard_X0_reasonAgainst
set_option maxRecDepth 20000 in
theorem ggX0_flyCard_X0_takeFlight : GoodIn wsX0_flyCard wsX0_takeFlight := goodIn_r _ [48, 17, 3, 39, 40, 49, 50, 51, 52, 53, 54, 7, 55, 18, 56, 34, 57, 58, 59, 26, 60, 28, 29, 23, 24, 25, 27, 61, 62, 63, 64, 65, 66, 67, 68, 69, 70, 71, 72, 73, 74] (by decide +kernel) (by decide +kernel)
set_option maxRecDepth 20000 in
theorem gX0_flyCard_X0_takeFlight : GoodIn wsX0_flyCard (wsV RX0 93 RX0 yX0_takeFlight wsX0_takeFlight) := goodIn_app (goodIn_of _ (by decide +kernel)) ggX0_flyCard_X0_takeFlight
theorem dX0_flyCard_0 : decode cX0_flyCard 0 = .ok (.aload_n 0, 1) := by decide +kernel
theorem dX0_flyCard_1 : decode cX0_flyCard 1 = .ok (.iload_n 1, 1) := by decide +kernel
theorem dX0_flyCard_2 : decode cX0_flyCard 2 = .ok (.invokevirtual 74, 3) := by decide +kernel
theorem dX0_flyCard_5 : decode cX0_flyCard 5 = .ok (.ifCond .eq 12, 3) := by decide +kernel
theorem dX0_flyCard_8 : decode cX0_flyCard 8 = .ok (.iload_n 2, 1) := by decide +kernel
theorem dX0_flyCard_9 : decode cX0_flyCard 9 = .ok (.iconst 1, 1) := by decide +kernel
theorem dX0_flyCard_10 : decode cX0_flyCard 10 = .ok (.iconst 2, 1) := by decide +kernel
theorem dX0_flyCard_11 : decode cX0_flyCard 11 = .ok (.invokestatic 70, 3) := by decide +kernel
theorem dX0_flyCard_14 : decode cX0_flyCard 14 = .ok (.ifCond .ne 6, 3) := by decide +kernel
theorem dX0_flyCard_17 : decode cX0_flyCard 17 = .ok (.ldc 73, 2) := by decide +kernel
theorem dX0_flyCard_19 : decode cX0_flyCard 19 = .ok (.ireturn, 1) := by decide +kernel
theorem dX0_flyCard_20 : decode cX0_flyCard 20 = .ok (.aload_n 0, 1) := by decide +kernel
theorem dX0_flyCard_21 : decode cX0_flyCard 21 = .ok (.iload_n 1, 1) := by decide +kernel
theorem dX0_flyCard_22 : decode cX0_flyCard 22 = .ok (.iconst 0, 1) := by decide +kernel
theorem dX0_flyCard_23 : decode cX0_flyCard 23 = .ok (.invokevirtual 88, 3) := by decide +kernel
theorem dX0_flyCard_26 : decode cX0_flyCard 26 = .ok (.ifCond .eq 6, 3) := by decide +kernel
theorem dX0_flyCard_29 : decode cX0_flyCard 29 = .ok (.ldc 92, 2) := by decide +kernel
theorem dX0_flyCard_31 : decode cX0_flyCard 31 = .ok (.ireturn, 1) := by decide +kernel
theorem dX0_flyCard_32 : decode cX0_flyCard 32 = .ok (.aload_n 0, 1) := by decide +kernel
theorem dX0_flyCard_33 : decode cX0_flyCard 33 = .ok (.iload_n 1, 1) := by decide +kernel
theorem dX0_flyCard_34 : decode cX0_flyCard 34 = .ok (.iload_n 2, 1) := by decide +kernel
theorem dX0_flyCard_35 : decode cX0_flyCard 35 = .ok (.invokevirtual 93, 3) := by decide +kernel
theorem dX0_flyCard_38 : decode cX0_flyCard 38 = .ok (.aload_n 0, 1) := by decide +kernel
theorem dX0_flyCard_39 : decode cX0_flyCard 39 = .ok (.getfield 36, 3) := by decide +kernel
theorem dX0_flyCard_42 : decode cX0_flyCard 42 = .ok (.ireturn, 1) := by decide +kernel
set_option maxRecDepth 20000 in
theorem ggX0_waiveCard_X0_hasCard : GoodIn wsX0_waiveCard wsX0_hasCard := goodIn_r _ [8, 9, 25, 26, 27, 28, 29, 30, 31, 32, 33, 34, 35, 36] (by decide +kernel) (by decide +kernel)
set_option maxRecDepth 20000 in
theorem gX0_waiveCard_X0_hasCard : GoodIn wsX0_waiveCard (wsV RX0 74 RX0 yX0_hasCard wsX0_hasCard) := goodIn_app (goodIn_of _ (by decide +kernel)) ggX0_waiveCard_X0_hasCard
set_option maxRecDepth 20000 in
theorem ggX0_waiveCard_X0_isDone : GoodIn wsX0_waiveCard wsX0_isDone := goodIn_r _ [13, 3, 14, 15, 16, 17, 18, 19, 20, 25, 26, 27, 28, 29, 30, 31, 32, 33, 34, 35, 36, 37, 38] (by decide +kernel) (by decide +kernel)
set_option maxRecDepth 20000 in
theorem gX0_waiveCard_X0_isDone : GoodIn wsX0_waiveCard (wsV RX0 96 RX0 yX0_isDone wsX0_isDone) := goodIn_app (goodIn_of _ (by decide +kernel)) ggX0_waiveCard_X0_isDone
set_option maxRecDepth 20000 in
theorem ggX0_waiveCard_X5_get : GoodIn wsX0_waiveCard wsX5_get := goodIn_r _ [18, 19, 20, 37, 38] (by decide +kernel) (by decide +kernel)
set_option maxRecDepth 20000 in
theorem gX0_waiveCard_X5_get : GoodIn wsX0_waiveCard (wsV RX0 99 RX5 yX5_get wsX5_get) := goodIn_app (goodIn_of _ (by decide +kernel)) ggX0_waiveCard_X5_get
set_option maxRecDepth 20000 in
theorem ggX0_waiveCard_X5_put : GoodIn wsX0_waiveCard wsX5_put := goodIn_r _ [24, 19, 20, 37, 38] (by decide +kernel) (by decide +kernel)
set_option maxRecDepth 20000 in
theorem gX0_waiveCard_X5_put : GoodIn wsX0_waiveCard (wsV RX0 58 RX5 yX5_put wsX5_put) := goodIn_app (goodIn_of _ (by decide +kernel)) ggX0_waiveCard_X5_put
theorem dX0_waiveCard_0 : decode cX0_waiveCard 0 = .ok (.aload_n 0, 1) := by decide +kernel
theorem dX0_waiveCard_1 : decode cX0_waiveCard 1 = .ok (.iload_n 1, 1) := by decide +kernel
theorem dX0_waiveCard_2 : decode cX0_waiveCard 2 = .ok (.invokevirtual 74, 3) := by decide +kernel
theorem dX0_waiveCard_5 : decode cX0_waiveCard 5 = .ok (.ifCond .ne 6, 3) := by decide +kernel
theorem dX0_waiveCard_8 : decode cX0_waiveCard 8 = .ok (.ldc 73, 2) := by decide +kernel
theorem dX0_waiveCard_10 : decode cX0_waiveCard 10 = .ok (.ireturn, 1) := by decide +kernel
theorem dX0_waiveCard_11 : decode cX0_waiveCard 11 = .ok (.aload_n 0, 1) := by decide +kernel
theorem dX0_waiveCard_12 : decode cX0_waiveCard 12 = .ok (.iload_n 1, 1) := by decide +kernel
theorem dX0_waiveCard_13 : decode cX0_waiveCard 13 = .ok (.invokevirtual 96, 3) := by decide +kernel
theorem dX0_waiveCard_16 : decode cX0_waiveCard 16 = .ok (.ifCond .eq 6, 3) := by decide +kernel
theorem dX0_waiveCard_19 : decode cX0_waiveCard 19 = .ok (.ldc 92, 2) := by decide +kernel
theorem dX0_waiveCard_21 : decode cX0_waiveCard 21 = .ok (.ireturn, 1) := by decide +kernel
theorem dX0_waiveCard_22 : decode cX0_waiveCard 22 = .ok (.aload_n 0, 1) := by decide +kernel
theorem dX0_waiveCard_23 : decode cX0_waiveCard 23 = .ok (.getfield 14, 3) := by decide +kernel
theorem dX0_waiveCard_26 : decode cX0_waiveCard 26 = .ok (.iload_n 1, 1) := by decide +kernel
theorem dX0_waiveCard_27 : decode cX0_waiveCard 27 = .ok (.bipush 6, 2) := by decide +kernel
theorem dX0_waiveCard_29 : decode cX0_waiveCard 29 = .ok (.invokevirtual 99, 3) := by decide +kernel
theorem dX0_waiveCard_32 : decode cX0_waiveCard 32 = .ok (.istore_n 2, 1) := by decide +kernel
theorem dX0_waiveCard_33 : decode cX0_waiveCard 33 = .ok (.aload_n 0, 1) := by decide +kernel
theorem dX0_waiveCard_34 : decode cX0_waiveCard 34 = .ok (.getfield 14, 3) := by decide +kernel
theorem dX0_waiveCard_37 : decode cX0_waiveCard 37 = .ok (.iload_n 1, 1) := by decide +kernel
theorem dX0_waiveCard_38 : decode cX0_waiveCard 38 = .ok (.bipush 6, 2) := by decide +kernel
theorem dX0_waiveCard_40 : decode cX0_waiveCard 40 = .ok (.iconst 3, 1) := by decide +kernel
theorem dX0_waiveCard_41 : decode cX0_waiveCard 41 = .ok (.invokevirtual 58, 3) := by decide +kernel
theorem dX0_waiveCard_44 : decode cX0_waiveCard 44 = .ok (.iload_n 2, 1) := by decide +kernel
theorem dX0_waiveCard_45 : decode cX0_waiveCard 45 = .ok (.ireturn, 1) := by decide +kernel
set_option maxRecDepth 20000 in
theorem ggX0_reopenCard_X0_hasCard : GoodIn wsX0_reopenCard wsX0_hasCard := goodIn_r _ [9, 3, 40, 41, 42, 43, 44, 45, 46, 47, 48, 49, 50, 51] (by decide +kernel) (by decide +kernel)
set_option maxRecDepth 20000 in
theorem gX0_reopenCard_X0_hasCard : GoodIn wsX0_reopenCard (wsV RX0 74 RX0 yX0_hasCard wsX0_hasCard) := goodIn_app (goodIn_of _ (by decide +kernel)) ggX0_reopenCard_X0_hasCard
set_option maxRecDepth 20000 in
theorem ggX0_reopenCard_X0_isDone : GoodIn wsX0_reopenCard wsX0_isDone := goodIn_r _ [13, 4, 14, 15, 16, 17, 18, 19, 20, 40, 41, 42, 43, 44, 45, 46, 47, 48, 49, 50, 51, 52, 53] (by decide +kernel) (by decide +kernel)
set_option maxRecDepth 20000 in
theorem gX0_reopenCard_X0_isDone : GoodIn wsX0_reopenCard (wsV RX0 96 RX0 yX0_isDone wsX0_isDone) := goodIn_app (goodIn_of _ (by decide +kernel)) ggX0_reopenCard_X0_isDone
set_option maxRecDepth 20000 in
theorem ggX0_reopenCard_X0_followersOf : GoodIn wsX0_reopenCard wsX0_followersOf := goodIn_r _ [24, 3, 4, 14, 15, 16, 17, 18, 19, 20, 40, 41, 42, 43, 44, 45, 46, 47, 48, 49, 50, 51, 52, 53] (by decide +kernel) (by decide +kernel)
set_option maxRecDepth 20000 in
theorem gX0_reopenCard_X0_followersOf : GoodIn wsX0_reopenCard (wsV RX0 102 RX0 yX0_followersOf wsX0_followersOf) := goodIn_app (goodIn_of _ (by decide +kernel)) ggX0_reopenCard_X0_followersOf
set_option maxRecDepth 20000 in
theorem ggX0_reopenCard_X0_cardsInState : GoodIn wsX0_reopenCard wsX0_cardsInState := goodIn_r _ [28, 3, 4, 14, 15, 16, 17, 18, 19, 20, 40, 41, 42, 43, 44, 45, 46, 47, 48, 49, 50, 51, 52, 53] (by decide +kernel) (by decide +kernel)
set_option maxRecDepth 20000 in
theorem gX0_reopenCard_X0_cardsInState : GoodIn wsX0_reopenCard (wsV RX0 105 RX0 yX0_cardsInState wsX0_cardsInState) := goodIn_app (goodIn_of _ (by decide +kernel)) ggX0_reopenCard_X0_cardsInState
set_option maxRecDepth 20000 in
theorem ggX0_reopenCard_X5_put : GoodIn wsX0_reopenCard wsX5_put := goodIn_r _ [32, 19, 20, 52, 53] (by decide +kernel) (by decide +kernel)
set_option maxRecDepth 20000 in
theorem gX0_reopenCard_X5_put : GoodIn wsX0_reopenCard (wsV RX0 58 RX5 yX5_put wsX5_put) := goodIn_app (goodIn_of _ (by decide +kernel)) ggX0_reopenCard_X5_put
set_option maxRecDepth 20000 in
theorem ggX0_reopenCard_J6_bitCount_0f7a4 : GoodIn wsX0_reopenCard wsJ6_bitCount_0f7a4 := goodIn_r _ [36, 37, 38, 39] (by decide +kernel) (by decide +kernel)
set_option maxRecDepth 20000 in
theorem gX0_reopenCard_J6_bitCount_0f7a4 : GoodIn wsX0_reopenCard (va_wsS RX0 83 yJ6_bitCount_0f7a4 wsJ6_bitCount_0f7a4) := goodIn_app (goodIn_of _ (by decide +kernel)) ggX0_reopenCard_J6_bitCount_0f7a4
theorem dX0_reopenCard_0 : decode cX0_reopenCard 0 = .ok (.aload_n 0, 1) := by decide +kernel
theorem dX0_reopenCard_1 : decode cX0_reopenCard 1 = .ok (.iload_n 1, 1) := by decide +kernel
theorem dX0_reopenCard_2 : decode cX0_reopenCard 2 = .ok (.invokevirtual 74, 3) := by decide +kernel
theorem dX0_reopenCard_5 : decode cX0_reopenCard 5 = .ok (.ifCond .ne 6, 3) := by decide +kernel
theorem dX0_reopenCard_8 : decode cX0_reopenCard 8 = .ok (.ldc 73, 2) := by decide +kernel
theorem dX0_reopenCard_10 : decode cX0_reopenCard 10 = .ok (.ireturn, 1) := by decide +kernel
theorem dX0_reopenCard_11 : decode cX0_reopenCard 11 = .ok (.aload_n 0, 1) := by decide +kernel
theorem dX0_reopenCard_12 : decode cX0_reopenCard 12 = .ok (.iload_n 1, 1) := by decide +kernel
theorem dX0_reopenCard_13 : decode cX0_reopenCard 13 = .ok (.invokevirtual 96, 3) := by decide +kernel
theorem dX0_reopenCard_16 : decode cX0_reopenCard 16 = .ok (.ifCond .ne 6, 3) := by decide +kernel
theorem dX0_reopenCard_19 : decode cX0_reopenCard 19 = .ok (.ldc 92, 2) := by decide +kernel
theorem dX0_reopenCard_21 : decode cX0_reopenCard 21 = .ok (.ireturn, 1) := by decide +kernel
theorem dX0_reopenCard_22 : decode cX0_reopenCard 22 = .ok (.iconst 1, 1) := by decide +kernel
theorem dX0_reopenCard_23 : decode cX0_reopenCard 23 = .ok (.iload_n 1, 1) := by decide +kernel
theorem dX0_reopenCard_24 : decode cX0_reopenCard 24 = .ok (.ishl, 1) := by decide +kernel
theorem dX0_reopenCard_25 : decode cX0_reopenCard 25 = .ok (.aload_n 0, 1) := by decide +kernel
theorem dX0_reopenCard_26 : decode cX0_reopenCard 26 = .ok (.iload_n 1, 1) := by decide +kernel
theorem dX0_reopenCard_27 : decode cX0_reopenCard 27 = .ok (.invokevirtual 102, 3) := by decide +kernel
theorem dX0_reopenCard_30 : decode cX0_reopenCard 30 = .ok (.aload_n 0, 1) := by decide +kernel
theorem dX0_reopenCard_31 : decode cX0_reopenCard 31 = .ok (.iconst 1, 1) := by decide +kernel
theorem dX0_reopenCard_32 : decode cX0_reopenCard 32 = .ok (.invokevirtual 105, 3) := by decide +kernel
theorem dX0_reopenCard_35 : decode cX0_reopenCard 35 = .ok (.iand, 1) := by decide +kernel
theorem dX0_reopenCard_36 : decode cX0_reopenCard 36 = .ok (.ior, 1) := by decide +kernel
theorem dX0_reopenCard_37 : decode cX0_reopenCard 37 = .ok (.istore_n 2, 1) := by decide +kernel
theorem dX0_reopenCard_38 : decode cX0_reopenCard 38 = .ok (.iconst 0, 1) := by decide +kernel
theorem dX0_reopenCard_39 : decode cX0_reopenCard 39 = .ok (.istore_n 3, 1) := by decide +kernel
theorem dX0_reopenCard_40 : decode cX0_reopenCard 40 = .ok (.iload_n 3, 1) := by decide +kernel
theorem dX0_reopenCard_41 : decode cX0_reopenCard 41 = .ok (.aload_n 0, 1) := by decide +kernel
theorem dX0_reopenCard_42 : decode cX0_reopenCard 42 = .ok (.getfield 29, 3) := by decide +kernel
theorem dX0_reopenCard_45 : decode cX0_reopenCard 45 = .ok (.if_icmp .ge 29, 3) := by decide +kernel
theorem dX0_reopenCard_48 : decode cX0_reopenCard 48 = .ok (.iload_n 2, 1) := by decide +kernel
theorem dX0_reopenCard_49 : decode cX0_reopenCard 49 = .ok (.iload_n 3, 1) := by decide +kernel
theorem dX0_reopenCard_50 : decode cX0_reopenCard 50 = .ok (.ishr, 1) := by decide +kernel
theorem dX0_reopenCard_51 : decode cX0_reopenCard 51 = .ok (.iconst 1, 1) := by decide +kernel
theorem dX0_reopenCard_52 : decode cX0_reopenCard 52 = .ok (.iand, 1) := by decide +kernel
theorem dX0_reopenCard_53 : decode cX0_reopenCard 53 = .ok (.iconst 1, 1) := by decide +kernel
theorem dX0_reopenCard_54 : decode cX0_reopenCard 54 = .ok (.if_icmp .ne 14, 3) := by decide +kernel
theorem dX0_reopenCard_57 : decode cX0_reopenCard 57 = .ok (.aload_n 0, 1) := by decide +kernel
theorem dX0_reopenCard_58 : decode cX0_reopenCard 58 = .ok (.getfield 14, 3) := by decide +kernel
theorem dX0_reopenCard_61 : decode cX0_reopenCard 61 = .ok (.iload_n 3, 1) := by decide +kernel
theorem dX0_reopenCard_62 : decode cX0_reopenCard 62 = .ok (.bipush 6, 2) := by decide +kernel
theorem dX0_reopenCard_64 : decode cX0_reopenCard 64 = .ok (.iconst 2, 1) := by decide +kernel
theorem dX0_reopenCard_65 : decode cX0_reopenCard 65 = .ok (.invokevirtual 58, 3) := by decide +kernel
theorem dX0_reopenCard_68 : decode cX0_reopenCard 68 = .ok (.iinc 3 1, 3) := by decide +kernel
theorem dX0_reopenCard_71 : decode cX0_reopenCard 71 = .ok (.goto (-31), 3) := by decide +kernel
theorem dX0_reopenCard_74 : decode cX0_reopenCard 74 = .ok (.iload_n 2, 1) := by decide +kernel
theorem dX0_reopenCard_75 : decode cX0_reopenCard 75 = .ok (.invokestatic 83, 3) := by decide +kernel
theorem dX0_reopenCard_78 : decode cX0_reopenCard 78 = .ok (.ireturn, 1) := by decide +kernel
set_option maxRecDepth 20000 in
theorem ggX0_passDays_X7_within : GoodIn wsX0_passDays wsX7_within := goodIn_r _ [6] (by decide +kernel) (by decide +kernel)
set_option maxRecDepth 20000 in
theorem gX0_passDays_X7_within_n70 : GoodIn wsX0_passDays (wsX7_within) := ggX0_passDays_X7_within
set_option maxRecDepth 20000 in
theorem ggX0_passDays_X0_goToDay : GoodIn wsX0_passDays wsX0_goToDay := goodIn_r _ [11, 2, 12, 13, 14, 15, 16, 10, 17, 18, 19, 20, 21, 22, 23, 24, 25, 26, 27, 28, 29] (by decide +kernel) (by decide +kernel)
set_option maxRecDepth 20000 in
theorem gX0_passDays_X0_goToDay : GoodIn wsX0_passDays (wsV RX0 108 RX0 yX0_goToDay wsX0_goToDay) := goodIn_app (goodIn_of _ (by decide +kernel)) ggX0_passDays_X0_goToDay
theorem dX0_passDays_0 : decode cX0_passDays 0 = .ok (.iload_n 1, 1) := by decide +kernel
theorem dX0_passDays_1 : decode cX0_passDays 1 = .ok (.iconst 1, 1) := by decide +kernel
theorem dX0_passDays_2 : decode cX0_passDays 2 = .ok (.bipush 99, 2) := by decide +kernel
theorem dX0_passDays_4 : decode cX0_passDays 4 = .ok (.invokestatic 70, 3) := by decide +kernel
theorem dX0_passDays_7 : decode cX0_passDays 7 = .ok (.ifCond .ne 6, 3) := by decide +kernel
theorem dX0_passDays_10 : decode cX0_passDays 10 = .ok (.ldc 73, 2) := by decide +kernel
theorem dX0_passDays_12 : decode cX0_passDays 12 = .ok (.ireturn, 1) := by decide +kernel
theorem dX0_passDays_13 : decode cX0_passDays 13 = .ok (.aload_n 0, 1) := by decide +kernel
theorem dX0_passDays_14 : decode cX0_passDays 14 = .ok (.getfield 33, 3) := by decide +kernel
theorem dX0_passDays_17 : decode cX0_passDays 17 = .ok (.iload_n 1, 1) := by decide +kernel
theorem dX0_passDays_18 : decode cX0_passDays 18 = .ok (.iadd, 1) := by decide +kernel
theorem dX0_passDays_19 : decode cX0_passDays 19 = .ok (.sipush 999, 3) := by decide +kernel
theorem dX0_passDays_22 : decode cX0_passDays 22 = .ok (.if_icmp .le 6, 3) := by decide +kernel
theorem dX0_passDays_25 : decode cX0_passDays 25 = .ok (.ldc 78, 2) := by decide +kernel
theorem dX0_passDays_27 : decode cX0_passDays 27 = .ok (.ireturn, 1) := by decide +kernel
theorem dX0_passDays_28 : decode cX0_passDays 28 = .ok (.aload_n 0, 1) := by decide +kernel
theorem dX0_passDays_29 : decode cX0_passDays 29 = .ok (.aload_n 0, 1) := by decide +kernel
theorem dX0_passDays_30 : decode cX0_passDays 30 = .ok (.getfield 33, 3) := by decide +kernel
theorem dX0_passDays_33 : decode cX0_passDays 33 = .ok (.iload_n 1, 1) := by decide +kernel
theorem dX0_passDays_34 : decode cX0_passDays 34 = .ok (.iadd, 1) := by decide +kernel
theorem dX0_passDays_35 : decode cX0_passDays 35 = .ok (.invokevirtual 108, 3) := by decide +kernel
theorem dX0_passDays_38 : decode cX0_passDays 38 = .ok (.aload_n 0, 1) := by decide +kernel
theorem dX0_passDays_39 : decode cX0_passDays 39 = .ok (.getfield 33, 3) := by decide +kernel
theorem dX0_passDays_42 : decode cX0_passDays 42 = .ok (.ireturn, 1) := by decide +kernel
set_option maxRecDepth 20000 in
theorem ggX0_changeSetting_X7_within : GoodIn wsX0_changeSetting wsX7_within := goodIn_r _ [5] (by decide +kernel) (by decide +kernel)
set_option maxRecDepth 20000 in
theorem gX0_changeSetting_X7_within_n70 : GoodIn wsX0_changeSetting (wsX7_within) := ggX0_changeSetting_X7_within
set_option maxRecDepth 20000 in
theorem ggX0_changeSetting_X5_get : GoodIn wsX0_changeSetting wsX5_get := goodIn_r _ [10, 11, 12, 29, 30] (by decide +kernel) (by decide +kernel)
set_option maxRecDepth 20000 in
theorem gX0_changeSetting_X5_get : GoodIn wsX0_changeSetting (wsV RX0 99 RX5 yX5_get wsX5_get) := goodIn_app (goodIn_of _ (by decide +kernel)) ggX0_changeSetting_X5_get
set_option maxRecDepth 20000 in
theorem ggX0_changeSetting_X5_put : GoodIn wsX0_changeSetting wsX5_put := goodIn_r _ [16, 11, 12, 29, 30] (by decide +kernel) (by decide +kernel)
set_option maxRecDepth 20000 in
theorem gX0_changeSetting_X5_put : GoodIn wsX0_changeSetting (wsV RX0 58 RX5 yX5_put wsX5_put) := goodIn_app (goodIn_of _ (by decide +kernel)) ggX0_changeSetting_X5_put
theorem dX0_changeSetting_0 : decode cX0_changeSetting 0 = .ok (.iload_n 1, 1) := by decide +kernel
theorem dX0_changeSetting_1 : decode cX0_changeSetting 1 = .ok (.iconst 0, 1) := by decide +kernel
theorem dX0_changeSetting_2 : decode cX0_changeSetting 2 = .ok (.iconst 2, 1) := by decide +kernel
theorem dX0_changeSetting_3 : decode cX0_changeSetting 3 = .ok (.invokestatic 70, 3) := by decide +kernel
theorem dX0_changeSetting_6 : decode cX0_changeSetting 6 = .ok (.ifCond .ne 6, 3) := by decide +kernel
theorem dX0_changeSetting_9 : decode cX0_changeSetting 9 = .ok (.ldc 73, 2) := by decide +kernel
theorem dX0_changeSetting_11 : decode cX0_changeSetting 11 = .ok (.ireturn, 1) := by decide +kernel
theorem dX0_changeSetting_12 : decode cX0_changeSetting 12 = .ok (.iload_n 1, 1) := by decide +kernel
theorem dX0_changeSetting_13 : decode cX0_changeSetting 13 = .ok (.ifCond .ne 7, 3) := by decide +kernel
theorem dX0_changeSetting_16 : decode cX0_changeSetting 16 = .ok (.iconst 0, 1) := by decide +kernel
theorem dX0_changeSetting_17 : decode cX0_changeSetting 17 = .ok (.goto 4, 3) := by decide +kernel
theorem dX0_changeSetting_20 : decode cX0_changeSetting 20 = .ok (.iconst 1, 1) := by decide +kernel
theorem dX0_changeSetting_21 : decode cX0_changeSetting 21 = .ok (.istore_n 3, 1) := by decide +kernel
theorem dX0_changeSetting_22 : decode cX0_changeSetting 22 = .ok (.iload_n 1, 1) := by decide +kernel
theorem dX0_changeSetting_23 : decode cX0_changeSetting 23 = .ok (.iconst 2, 1) := by decide +kernel
theorem dX0_changeSetting_24 : decode cX0_changeSetting 24 = .ok (.if_icmp .ne 8, 3) := by decide +kernel
theorem dX0_changeSetting_27 : decode cX0_changeSetting 27 = .ok (.bipush 99, 2) := by decide +kernel
theorem dX0_changeSetting_29 : decode cX0_changeSetting 29 = .ok (.goto 5, 3) := by decide +kernel
theorem dX0_changeSetting_32 : decode cX0_changeSetting 32 = .ok (.bipush 9, 2) := by decide +kernel
theorem dX0_changeSetting_34 : decode cX0_changeSetting 34 = .ok (.istore 4, 2) := by decide +kernel
theorem dX0_changeSetting_36 : decode cX0_changeSetting 36 = .ok (.iload_n 2, 1) := by decide +kernel
theorem dX0_changeSetting_37 : decode cX0_changeSetting 37 = .ok (.iload_n 3, 1) := by decide +kernel
theorem dX0_changeSetting_38 : decode cX0_changeSetting 38 = .ok (.iload 4, 2) := by decide +kernel
theorem dX0_changeSetting_40 : decode cX0_changeSetting 40 = .ok (.invokestatic 70, 3) := by decide +kernel
theorem dX0_changeSetting_43 : decode cX0_changeSetting 43 = .ok (.ifCond .ne 6, 3) := by decide +kernel
theorem dX0_changeSetting_46 : decode cX0_changeSetting 46 = .ok (.ldc 73, 2) := by decide +kernel
theorem dX0_changeSetting_48 : decode cX0_changeSetting 48 = .ok (.ireturn, 1) := by decide +kernel
theorem dX0_changeSetting_49 : decode cX0_changeSetting 49 = .ok (.aload_n 0, 1) := by decide +kernel
theorem dX0_changeSetting_50 : decode cX0_changeSetting 50 = .ok (.getfield 26, 3) := by decide +kernel
theorem dX0_changeSetting_53 : decode cX0_changeSetting 53 = .ok (.iconst 0, 1) := by decide +kernel
theorem dX0_changeSetting_54 : decode cX0_changeSetting 54 = .ok (.iload_n 1, 1) := by decide +kernel
theorem dX0_changeSetting_55 : decode cX0_changeSetting 55 = .ok (.invokevirtual 99, 3) := by decide +kernel
theorem dX0_changeSetting_58 : decode cX0_changeSetting 58 = .ok (.istore 5, 2) := by decide +kernel
theorem dX0_changeSetting_60 : decode cX0_changeSetting 60 = .ok (.aload_n 0, 1) := by decide +kernel
theorem dX0_changeSetting_61 : decode cX0_changeSetting 61 = .ok (.getfield 26, 3) := by decide +kernel
theorem dX0_changeSetting_64 : decode cX0_changeSetting 64 = .ok (.iconst 0, 1) := by decide +kernel
theorem dX0_changeSetting_65 : decode cX0_changeSetting 65 = .ok (.iload_n 1, 1) := by decide +kernel
theorem dX0_changeSetting_66 : decode cX0_changeSetting 66 = .ok (.iload_n 2, 1) := by decide +kernel
theorem dX0_changeSetting_67 : decode cX0_changeSetting 67 = .ok (.invokevirtual 58, 3) := by decide +kernel
theorem dX0_changeSetting_70 : decode cX0_changeSetting 70 = .ok (.iload 5, 2) := by decide +kernel
theorem dX0_changeSetting_72 : decode cX0_changeSetting 72 = .ok (.ireturn, 1) := by decide +kernel
set_option maxRecDepth 20000 in
theorem ggX0_goToDay_X0_weekOf : GoodIn wsX0_goToDay wsX0_weekOf := goodIn_r _ [8] (by decide +kernel) (by decide +kernel)
set_option maxRecDepth 20000 in
theorem gX0_goToDay_X0_weekOf : GoodIn wsX0_goToDay (va_wsS RX0 112 yX0_weekOf wsX0_weekOf) := goodIn_app (goodIn_of _ (by decide +kernel)) ggX0_goToDay_X0_weekOf
theorem dX0_goToDay_0 : decode cX0_goToDay 0 = .ok (.iload_n 1, 1) := by decide +kernel
theorem dX0_goToDay_1 : decode cX0_goToDay 1 = .ok (.invokestatic 112, 3) := by decide +kernel
theorem dX0_goToDay_4 : decode cX0_goToDay 4 = .ok (.aload_n 0, 1) := by decide +kernel
theorem dX0_goToDay_5 : decode cX0_goToDay 5 = .ok (.getfield 33, 3) := by decide +kernel
theorem dX0_goToDay_8 : decode cX0_goToDay 8 = .ok (.invokestatic 112, 3) := by decide +kernel
theorem dX0_goToDay_11 : decode cX0_goToDay 11 = .ok (.if_icmp .eq 8, 3) := by decide +kernel
theorem dX0_goToDay_14 : decode cX0_goToDay 14 = .ok (.aload_n 0, 1) := by decide +kernel
theorem dX0_goToDay_15 : decode cX0_goToDay 15 = .ok (.iconst 0, 1) := by decide +kernel
theorem dX0_goToDay_16 : decode cX0_goToDay 16 = .ok (.putfield 42, 3) := by decide +kernel
theorem dX0_goToDay_19 : decode cX0_goToDay 19 = .ok (.aload_n 0, 1) := by decide +kernel
theorem dX0_goToDay_20 : decode cX0_goToDay 20 = .ok (.iconst 0, 1) := by decide +kernel
theorem dX0_goToDay_21 : decode cX0_goToDay 21 = .ok (.putfield 36, 3) := by decide +kernel
theorem dX0_goToDay_24 : decode cX0_goToDay 24 = .ok (.aload_n 0, 1) := by decide +kernel
theorem dX0_goToDay_25 : decode cX0_goToDay 25 = .ok (.iconst 0, 1) := by decide +kernel
theorem dX0_goToDay_26 : decode cX0_goToDay 26 = .ok (.putfield 39, 3) := by decide +kernel
theorem dX0_goToDay_29 : decode cX0_goToDay 29 = .ok (.aload_n 0, 1) := by decide +kernel
theorem dX0_goToDay_30 : decode cX0_goToDay 30 = .ok (.iload_n 1, 1) := by decide +kernel
theorem dX0_goToDay_31 : decode cX0_goToDay 31 = .ok (.putfield 33, 3) := by decide +kernel
theorem dX0_goToDay_34 : decode cX0_goToDay 34 = .ok (.return_, 1) := by decide +kernel
set_option maxRecDepth 20000 in
theorem ggX0_takeFlight_X0_noteFlight : GoodIn wsX0_takeFlight wsX0_noteFlight := goodIn_r _ [12, 5, 13, 14, 1, 15, 16, 17, 18, 19, 20, 21, 22, 23, 24, 25, 26, 27, 28, 29, 30, 31, 32, 33, 34, 35, 36, 37, 38, 39, 40] (by decide +kernel) (by decide +kernel)
set_option maxRecDepth 20000 in
theorem gX0_takeFlight_X0_noteFlight : GoodIn wsX0_takeFlight (wsV RX0 115 RX0 yX0_noteFlight wsX0_noteFlight) := goodIn_app (goodIn_of _ (by decide +kernel)) ggX0_takeFlight_X0_noteFlight
set_option maxRecDepth 20000 in
theorem ggX0_takeFlight_X5_get : GoodIn wsX0_takeFlight wsX5_get := goodIn_r _ [26, 21, 22, 39, 40] (by decide +kernel) (by decide +kernel)
set_option maxRecDepth 20000 in
theorem gX0_takeFlight_X5_get : GoodIn wsX0_takeFlight (wsV RX0 99 RX5 yX5_get wsX5_get) := goodIn_app (goodIn_of _ (by decide +kernel)) ggX0_takeFlight_X5_get
set_option maxRecDepth 20000 in
theorem ggX0_takeFlight_X5_put : GoodIn wsX0_takeFlight wsX5_put := goodIn_r _ [20, 21, 22, 39, 40] (by decide +kernel) (by decide +kernel)
set_option maxRecDepth 20000 in
theorem gX0_takeFlight_X5_put : GoodIn wsX0_takeFlight (wsV RX0 58 RX5 yX5_put wsX5_put) := goodIn_app (goodIn_of _ (by decide +kernel)) ggX0_takeFlight_X5_put
theorem dX0_takeFlight_0 : decode cX0_takeFlight 0 = .ok (.aload_n 0, 1) := by decide +kernel
theorem dX0_takeFlight_1 : decode cX0_takeFlight 1 = .ok (.iload_n 1, 1) := by decide +kernel
theorem dX0_takeFlight_2 : decode cX0_takeFlight 2 = .ok (.iload_n 2, 1) := by decide +kernel
theorem dX0_takeFlight_3 : decode cX0_takeFlight 3 = .ok (.invokevirtual 115, 3) := by decide +kernel
theorem dX0_takeFlight_6 : decode cX0_takeFlight 6 = .ok (.aload_n 0, 1) := by decide +kernel
theorem dX0_takeFlight_7 : decode cX0_takeFlight 7 = .ok (.getfield 14, 3) := by decide +kernel
theorem dX0_takeFlight_10 : decode cX0_takeFlight 10 = .ok (.iload_n 1, 1) := by decide +kernel
theorem dX0_takeFlight_11 : decode cX0_takeFlight 11 = .ok (.iconst 4, 1) := by decide +kernel
theorem dX0_takeFlight_12 : decode cX0_takeFlight 12 = .ok (.invokevirtual 99, 3) := by decide +kernel
theorem dX0_takeFlight_15 : decode cX0_takeFlight 15 = .ok (.istore_n 3, 1) := by decide +kernel
theorem dX0_takeFlight_16 : decode cX0_takeFlight 16 = .ok (.aload_n 0, 1) := by decide +kernel
theorem dX0_takeFlight_17 : decode cX0_takeFlight 17 = .ok (.getfield 14, 3) := by decide +kernel
theorem dX0_takeFlight_20 : decode cX0_takeFlight 20 = .ok (.iload_n 1, 1) := by decide +kernel
theorem dX0_takeFlight_21 : decode cX0_takeFlight 21 = .ok (.bipush 6, 2) := by decide +kernel
theorem dX0_takeFlight_23 : decode cX0_takeFlight 23 = .ok (.iload_n 2, 1) := by decide +kernel
theorem dX0_takeFlight_24 : decode cX0_takeFlight 24 = .ok (.invokevirtual 58, 3) := by decide +kernel
theorem dX0_takeFlight_27 : decode cX0_takeFlight 27 = .ok (.aload_n 0, 1) := by decide +kernel
theorem dX0_takeFlight_28 : decode cX0_takeFlight 28 = .ok (.getfield 14, 3) := by decide +kernel
theorem dX0_takeFlight_31 : decode cX0_takeFlight 31 = .ok (.iload_n 1, 1) := by decide +kernel
theorem dX0_takeFlight_32 : decode cX0_takeFlight 32 = .ok (.bipush 7, 2) := by decide +kernel
theorem dX0_takeFlight_34 : decode cX0_takeFlight 34 = .ok (.aload_n 0, 1) := by decide +kernel
theorem dX0_takeFlight_35 : decode cX0_takeFlight 35 = .ok (.getfield 14, 3) := by decide +kernel
theorem dX0_takeFlight_38 : decode cX0_takeFlight 38 = .ok (.iload_n 1, 1) := by decide +kernel
theorem dX0_takeFlight_39 : decode cX0_takeFlight 39 = .ok (.bipush 7, 2) := by decide +kernel
theorem dX0_takeFlight_41 : decode cX0_takeFlight 41 = .ok (.invokevirtual 99, 3) := by decide +kernel
theorem dX0_takeFlight_44 : decode cX0_takeFlight 44 = .ok (.iconst 1, 1) := by decide +kernel
theorem dX0_takeFlight_45 : decode cX0_takeFlight 45 = .ok (.iadd, 1) := by decide +kernel
theorem dX0_takeFlight_46 : decode cX0_takeFlight 46 = .ok (.invokevirtual 58, 3) := by decide +kernel
theorem dX0_takeFlight_49 : decode cX0_takeFlight 49 = .ok (.aload_n 0, 1) := by decide +kernel
theorem dX0_takeFlight_50 : decode cX0_takeFlight 50 = .ok (.dup, 1) := by decide +kernel
theorem dX0_takeFlight_51 : decode cX0_takeFlight 51 = .ok (.getfield 36, 3) := by decide +kernel
theorem dX0_takeFlight_54 : decode cX0_takeFlight 54 = .ok (.iconst 1, 1) := by decide +kernel
theorem dX0_takeFlight_55 : decode cX0_takeFlight 55 = .ok (.iadd, 1) := by decide +kernel
theorem dX0_takeFlight_56 : decode cX0_takeFlight 56 = .ok (.putfield 36, 3) := by decide +kernel
theorem dX0_takeFlight_59 : decode cX0_takeFlight 59 = .ok (.aload_n 0, 1) := by decide +kernel
theorem dX0_takeFlight_60 : decode cX0_takeFlight 60 = .ok (.dup, 1) := by decide +kernel
theorem dX0_takeFlight_61 : decode cX0_takeFlight 61 = .ok (.getfield 39, 3) := by decide +kernel
theorem dX0_takeFlight_64 : decode cX0_takeFlight 64 = .ok (.aload_n 0, 1) := by decide +kernel
theorem dX0_takeFlight_65 : decode cX0_takeFlight 65 = .ok (.getfield 14, 3) := by decide +kernel
theorem dX0_takeFlight_68 : decode cX0_takeFlight 68 = .ok (.iload_n 1, 1) := by decide +kernel
theorem dX0_takeFlight_69 : decode cX0_takeFlight 69 = .ok (.iconst 3, 1) := by decide +kernel
theorem dX0_takeFlight_70 : decode cX0_takeFlight 70 = .ok (.invokevirtual 99, 3) := by decide +kernel
theorem dX0_takeFlight_73 : decode cX0_takeFlight 73 = .ok (.iadd, 1) := by decide +kernel
theorem dX0_takeFlight_74 : decode cX0_takeFlight 74 = .ok (.putfield 39, 3) := by decide +kernel
theorem dX0_takeFlight_77 : decode cX0_takeFlight 77 = .ok (.aload_n 0, 1) := by decide +kernel
theorem dX0_takeFlight_78 : decode cX0_takeFlight 78 = .ok (.dup, 1) := by decide +kernel
theorem dX0_takeFlight_79 : decode cX0_takeFlight 79 = .ok (.getfield 42, 3) := by decide +kernel
theorem dX0_takeFlight_82 : decode cX0_takeFlight 82 = .ok (.iload_n 3, 1) := by decide +kernel
theorem dX0_takeFlight_83 : decode cX0_takeFlight 83 = .ok (.iadd, 1) := by decide +kernel
theorem dX0_takeFlight_84 : decode cX0_takeFlight 84 = .ok (.putfield 42, 3) := by decide +kernel
theorem dX0_takeFlight_87 : decode cX0_takeFlight 87 = .ok (.aload_n 0, 1) := by decide +kernel
theorem dX0_takeFlight_88 : decode cX0_takeFlight 88 = .ok (.dup, 1) := by decide +kernel
theorem dX0_takeFlight_89 : decode cX0_takeFlight 89 = .ok (.getfield 45, 3) := by decide +kernel
theorem dX0_takeFlight_92 : decode cX0_takeFlight 92 = .ok (.iconst 1, 1) := by decide +kernel
theorem dX0_takeFlight_93 : decode cX0_takeFlight 93 = .ok (.iadd, 1) := by decide +kernel
theorem dX0_takeFlight_94 : decode cX0_takeFlight 94 = .ok (.putfield 45, 3) := by decide +kernel
theorem dX0_takeFlight_97 : decode cX0_takeFlight 97 = .ok (.aload_n 0, 1) := by decide +kernel
theorem dX0_takeFlight_98 : decode cX0_takeFlight 98 = .ok (.dup, 1) := by decide +kernel
theorem dX0_takeFlight_99 : decode cX0_takeFlight 99 = .ok (.getfield 51, 3) := by decide +kernel
theorem dX0_takeFlight_102 : decode cX0_takeFlight 102 = .ok (.iload_n 3, 1) := by decide +kernel
theorem dX0_takeFlight_103 : decode cX0_takeFlight 103 = .ok (.iadd, 1) := by decide +kernel
theorem dX0_takeFlight_104 : decode cX0_takeFlight 104 = .ok (.putfield 51, 3) := by decide +kernel
theorem dX0_takeFlight_107 : decode cX0_takeFlight 107 = .ok (.iload_n 2, 1) := by decide +kernel
theorem dX0_takeFlight_108 : decode cX0_takeFlight 108 = .ok (.iconst 2, 1) := by decide +kernel
theorem dX0_takeFlight_109 : decode cX0_takeFlight 109 = .ok (.if_icmp .ne 13, 3) := by decide +kernel
theorem dX0_takeFlight_112 : decode cX0_takeFlight 112 = .ok (.aload_n 0, 1) := by decide +kernel
theorem dX0_takeFlight_113 : decode cX0_takeFlight 113 = .ok (.dup, 1) := by decide +kernel
theorem dX0_takeFlight_114 : decode cX0_takeFlight 114 = .ok (.getfield 48, 3) := by decide +kernel
theorem dX0_takeFlight_117 : decode cX0_takeFlight 117 = .ok (.iconst 1, 1) := by decide +kernel
theorem dX0_takeFlight_118 : decode cX0_takeFlight 118 = .ok (.iadd, 1) := by decide +kernel
theorem dX0_takeFlight_119 : decode cX0_takeFlight 119 = .ok (.putfield 48, 3) := by decide +kernel
theorem dX0_takeFlight_122 : decode cX0_takeFlight 122 = .ok (.return_, 1) := by decide +kernel
set_option maxRecDepth 20000 in
theorem ggX0_noteFlight_X5_put : GoodIn wsX0_noteFlight wsX5_put := goodIn_r _ [10, 11, 12, 29, 30] (by decide +kernel) (by decide +kernel)
set_option maxRecDepth 20000 in
theorem gX0_noteFlight_X5_put : GoodIn wsX0_noteFlight (wsV RX0 58 RX5 yX5_put wsX5_put) := goodIn_app (goodIn_of _ (by decide +kernel)) ggX0_noteFlight_X5_put
set_option maxRecDepth 20000 in
theorem ggX0_noteFlight_X5_get : GoodIn wsX0_noteFlight wsX5_get := goodIn_r _ [16, 11, 12, 29, 30] (by decide +kernel) (by decide +kernel)
set_option maxRecDepth 20000 in
theorem gX0_noteFlight_X5_get : GoodIn wsX0_noteFlight (wsV RX0 99 RX5 yX5_get wsX5_get) := goodIn_app (goodIn_of _ (by decide +kernel)) ggX0_noteFlight_X5_get
theorem dX0_noteFlight_0 : decode cX0_noteFlight 0 = .ok (.aload_n 0, 1) := by decide +kernel
theorem dX0_noteFlight_1 : decode cX0_noteFlight 1 = .ok (.getfield 45, 3) := by decide +kernel
theorem dX0_noteFlight_4 : decode cX0_noteFlight 4 = .ok (.bipush 10, 2) := by decide +kernel
theorem dX0_noteFlight_6 : decode cX0_noteFlight 6 = .ok (.irem, 1) := by decide +kernel
theorem dX0_noteFlight_7 : decode cX0_noteFlight 7 = .ok (.istore_n 3, 1) := by decide +kernel
theorem dX0_noteFlight_8 : decode cX0_noteFlight 8 = .ok (.aload_n 0, 1) := by decide +kernel
theorem dX0_noteFlight_9 : decode cX0_noteFlight 9 = .ok (.getfield 33, 3) := by decide +kernel
theorem dX0_noteFlight_12 : decode cX0_noteFlight 12 = .ok (.bipush 28, 2) := by decide +kernel
theorem dX0_noteFlight_14 : decode cX0_noteFlight 14 = .ok (.irem, 1) := by decide +kernel
theorem dX0_noteFlight_15 : decode cX0_noteFlight 15 = .ok (.istore 4, 2) := by decide +kernel
theorem dX0_noteFlight_17 : decode cX0_noteFlight 17 = .ok (.aload_n 0, 1) := by decide +kernel
theorem dX0_noteFlight_18 : decode cX0_noteFlight 18 = .ok (.getfield 23, 3) := by decide +kernel
theorem dX0_noteFlight_21 : decode cX0_noteFlight 21 = .ok (.iload_n 3, 1) := by decide +kernel
theorem dX0_noteFlight_22 : decode cX0_noteFlight 22 = .ok (.iconst 0, 1) := by decide +kernel
theorem dX0_noteFlight_23 : decode cX0_noteFlight 23 = .ok (.iload_n 1, 1) := by decide +kernel
theorem dX0_noteFlight_24 : decode cX0_noteFlight 24 = .ok (.invokevirtual 58, 3) := by decide +kernel
theorem dX0_noteFlight_27 : decode cX0_noteFlight 27 = .ok (.aload_n 0, 1) := by decide +kernel
theorem dX0_noteFlight_28 : decode cX0_noteFlight 28 = .ok (.getfield 23, 3) := by decide +kernel
theorem dX0_noteFlight_31 : decode cX0_noteFlight 31 = .ok (.iload_n 3, 1) := by decide +kernel
theorem dX0_noteFlight_32 : decode cX0_noteFlight 32 = .ok (.iconst 1, 1) := by decide +kernel
theorem dX0_noteFlight_33 : decode cX0_noteFlight 33 = .ok (.aload_n 0, 1) := by decide +kernel
theorem dX0_noteFlight_34 : decode cX0_noteFlight 34 = .ok (.getfield 33, 3) := by decide +kernel
theorem dX0_noteFlight_37 : decode cX0_noteFlight 37 = .ok (.invokevirtual 58, 3) := by decide +kernel
theorem dX0_noteFlight_40 : decode cX0_noteFlight 40 = .ok (.aload_n 0, 1) := by decide +kernel
theorem dX0_noteFlight_41 : decode cX0_noteFlight 41 = .ok (.getfield 23, 3) := by decide +kernel
theorem dX0_noteFlight_44 : decode cX0_noteFlight 44 = .ok (.iload_n 3, 1) := by decide +kernel
theorem dX0_noteFlight_45 : decode cX0_noteFlight 45 = .ok (.iconst 2, 1) := by decide +kernel
theorem dX0_noteFlight_46 : decode cX0_noteFlight 46 = .ok (.iload_n 2, 1) := by decide +kernel
theorem dX0_noteFlight_47 : decode cX0_noteFlight 47 = .ok (.invokevirtual 58, 3) := by decide +kernel
theorem dX0_noteFlight_50 : decode cX0_noteFlight 50 = .ok (.aload_n 0, 1) := by decide +kernel
theorem dX0_noteFlight_51 : decode cX0_noteFlight 51 = .ok (.getfield 23, 3) := by decide +kernel
theorem dX0_noteFlight_54 : decode cX0_noteFlight 54 = .ok (.iload_n 3, 1) := by decide +kernel
theorem dX0_noteFlight_55 : decode cX0_noteFlight 55 = .ok (.iconst 3, 1) := by decide +kernel
theorem dX0_noteFlight_56 : decode cX0_noteFlight 56 = .ok (.aload_n 0, 1) := by decide +kernel
theorem dX0_noteFlight_57 : decode cX0_noteFlight 57 = .ok (.getfield 14, 3) := by decide +kernel
theorem dX0_noteFlight_60 : decode cX0_noteFlight 60 = .ok (.iload_n 1, 1) := by decide +kernel
theorem dX0_noteFlight_61 : decode cX0_noteFlight 61 = .ok (.iconst 0, 1) := by decide +kernel
theorem dX0_noteFlight_62 : decode cX0_noteFlight 62 = .ok (.invokevirtual 99, 3) := by decide +kernel
theorem dX0_noteFlight_65 : decode cX0_noteFlight 65 = .ok (.aload_n 0, 1) := by decide +kernel
theorem dX0_noteFlight_66 : decode cX0_noteFlight 66 = .ok (.getfield 20, 3) := by decide +kernel
theorem dX0_noteFlight_69 : decode cX0_noteFlight 69 = .ok (.iload 4, 2) := by decide +kernel
theorem dX0_noteFlight_71 : decode cX0_noteFlight 71 = .ok (.iconst 0, 1) := by decide +kernel
theorem dX0_noteFlight_72 : decode cX0_noteFlight 72 = .ok (.invokevirtual 99, 3) := by decide +kernel
theorem dX0_noteFlight_75 : decode cX0_noteFlight 75 = .ok (.isub, 1) := by decide +kernel
theorem dX0_noteFlight_76 : decode cX0_noteFlight 76 = .ok (.invokevirtual 58, 3) := by decide +kernel
theorem dX0_noteFlight_79 : decode cX0_noteFlight 79 = .ok (.aload_n 0, 1) := by decide +kernel
theorem dX0_noteFlight_80 : decode cX0_noteFlight 80 = .ok (.getfield 23, 3) := by decide +kernel
theorem dX0_noteFlight_83 : decode cX0_noteFlight 83 = .ok (.iload_n 3, 1) := by decide +kernel
theorem dX0_noteFlight_84 : decode cX0_noteFlight 84 = .ok (.iconst 4, 1) := by decide +kernel
theorem dX0_noteFlight_85 : decode cX0_noteFlight 85 = .ok (.aload_n 0, 1) := by decide +kernel
theorem dX0_noteFlight_86 : decode cX0_noteFlight 86 = .ok (.getfield 20, 3) := by decide +kernel
theorem dX0_noteFlight_89 : decode cX0_noteFlight 89 = .ok (.iload 4, 2) := by decide +kernel
theorem dX0_noteFlight_91 : decode cX0_noteFlight 91 = .ok (.iconst 1, 1) := by decide +kernel
theorem dX0_noteFlight_92 : decode cX0_noteFlight 92 = .ok (.invokevirtual 99, 3) := by decide +kernel
theorem dX0_noteFlight_95 : decode cX0_noteFlight 95 = .ok (.aload_n 0, 1) := by decide +kernel
theorem dX0_noteFlight_96 : decode cX0_noteFlight 96 = .ok (.getfield 14, 3) := by decide +kernel
theorem dX0_noteFlight_99 : decode cX0_noteFlight 99 = .ok (.iload_n 1, 1) := by decide +kernel
theorem dX0_noteFlight_100 : decode cX0_noteFlight 100 = .ok (.iconst 1, 1) := by decide +kernel
theorem dX0_noteFlight_101 : decode cX0_noteFlight 101 = .ok (.invokevirtual 99, 3) := by decide +kernel
theorem dX0_noteFlight_104 : decode cX0_noteFlight 104 = .ok (.isub, 1) := by decide +kernel
theorem dX0_noteFlight_105 : decode cX0_noteFlight 105 = .ok (.invokevirtual 58, 3) := by decide +kernel
theorem dX0_noteFlight_108 : decode cX0_noteFlight 108 = .ok (.return_, 1) := by decide +kernel
theorem dX0_flightsKept_0 : decode cX0_flightsKept 0 = .ok (.aload_n 0, 1) := by decide +kernel
theorem dX0_flightsKept_1 : decode cX0_flightsKept 1 = .ok (.getfield 45, 3) := by decide +kernel
theorem dX0_flightsKept_4 : decode cX0_flightsKept 4 = .ok (.bipush 10, 2) := by decide +kernel
theorem dX0_flightsKept_6 : decode cX0_flightsKept 6 = .ok (.invokestatic 118, 3) := by decide +kernel
theorem dX0_flightsKept_9 : decode cX0_flightsKept 9 = .ok (.ireturn, 1) := by decide +kernel
theorem dX0_rowOfFlight_0 : decode cX0_rowOfFlight 0 = .ok (.aload_n 0, 1) := by decide +kernel
theorem dX0_rowOfFlight_1 : decode cX0_rowOfFlight 1 = .ok (.getfield 45, 3) := by decide +kernel
theorem dX0_rowOfFlight_4 : decode cX0_rowOfFlight 4 = .ok (.iconst 1, 1) := by decide +kernel
theorem dX0_rowOfFlight_5 : decode cX0_rowOfFlight 5 = .ok (.isub, 1) := by decide +kernel
theorem dX0_rowOfFlight_6 : decode cX0_rowOfFlight 6 = .ok (.iload_n 1, 1) := by decide +kernel
theorem dX0_rowOfFlight_7 : decode cX0_rowOfFlight 7 = .ok (.isub, 1) := by decide +kernel
theorem dX0_rowOfFlight_8 : decode cX0_rowOfFlight 8 = .ok (.bipush 10, 2) := by decide +kernel
theorem dX0_rowOfFlight_10 : decode cX0_rowOfFlight 10 = .ok (.irem, 1) := by decide +kernel
theorem dX0_rowOfFlight_11 : decode cX0_rowOfFlight 11 = .ok (.ireturn, 1) := by decide +kernel
set_option maxRecDepth 20000 in
theorem ggX0_reasonAgainst_X0_isDone : GoodIn wsX0_reasonAgainst wsX0_isDone := goodIn_r _ [7, 1, 8, 9, 10, 11, 12, 13, 14, 31, 32, 33, 34, 35, 36, 37, 38, 39, 40, 41, 42, 43, 44] (by decide +kernel) (by decide +kernel)
set_option maxRecDepth 20000 in
theorem gX0_reasonAgainst_X0_isDone : GoodIn wsX0_reasonAgainst (wsV RX0 96 RX0 yX0_isDone wsX0_isDone) := goodIn_app (goodIn_of _ (by decide +kernel)) ggX0_reasonAgainst_X0_isDone
set_option maxRecDepth 20000 in
theorem ggX0_reasonAgainst_X5_get : GoodIn wsX0_reasonAgainst wsX5_get := goodIn_r _ [12, 13, 14, 43, 44] (by decide +kernel) (by decide +kernel)
set_option maxRecDepth 20000 in
theorem gX0_reasonAgainst_X5_get : GoodIn wsX0_reasonAgainst (wsV RX0 99 RX5 yX5_get wsX5_get) := goodIn_app (goodIn_of _ (by decide +kernel)) ggX0_reasonAgainst_X5_get
set_option maxRecDepth 20000 in
theorem ggX0_reasonAgainst_X0_reasonOfWeather : GoodIn wsX0_reasonAgainst wsX0_reasonOfWeather := goodIn_r _ [18, 19, 1, 8, 9, 10, 11, 12, 13, 14, 31, 32, 33, 34, 35, 36, 37, 38, 39, 40, 41, 42, 43, 44] (by decide +kernel) (by decide +kernel)
set_option maxRecDepth 20000 in
theorem gX0_reasonAgainst_X0_reasonOfWeather : GoodIn wsX0_reasonAgainst (wsV RX0 123 RX0 yX0_reasonOfWeather wsX0_reasonOfWeather) := goodIn_app (goodIn_of _ (by decide +kernel)) ggX0_reasonAgainst_X0_reasonOfWeather
set_option maxRecDepth 20000 in
theorem ggX0_reasonAgainst_X0_reasonOfTaking : GoodIn wsX0_reasonAgainst wsX0_reasonOfTaking := goodIn_r _ [23, 24, 25, 2, 26, 27, 1, 28, 29, 6, 30, 8, 9, 10, 11, 12, 13, 14, 31, 32, 33, 34, 35, 36, 37, 38, 39, 40, 41, 42, 43, 44] (by decide +kernel) (by decide +kernel)
set_option maxRecDepth 20000 in
theorem gX0_reasonAgainst_X0_reasonOfTaking : GoodIn wsX0_reasonAgainst (wsV RX0 126 RX0 yX0_reasonOfTaking wsX0_reasonOfTaking) := goodIn_app (goodIn_of _ (by decide +kernel)) ggX0_reasonAgainst_X0_reasonOfTaking
theorem dX0_reasonAgainst_0 : decode cX0_reasonAgainst 0 = .ok (.aload_n 0, 1) := by decide +kernel
theorem dX0_reasonAgainst_1 : decode cX0_reasonAgainst 1 = .ok (.iload_n 1, 1) := by decide +kernel
theorem dX0_reasonAgainst_2 : decode cX0_reasonAgainst 2 = .ok (.invokevirtual 96, 3) := by decide +kernel
theorem dX0_reasonAgainst_5 : decode cX0_reasonAgainst 5 = .ok (.ifCond .eq 5, 3) := by decide +kernel
theorem dX0_reasonAgainst_8 : decode cX0_reasonAgainst 8 = .ok (.iconst 1, 1) := by decide +kernel
theorem dX0_reasonAgainst_9 : decode cX0_reasonAgainst 9 = .ok (.ireturn, 1) := by decide +kernel
theorem dX0_reasonAgainst_10 : decode cX0_reasonAgainst 10 = .ok (.aload_n 0, 1) := by decide +kernel
theorem dX0_reasonAgainst_11 : decode cX0_reasonAgainst 11 = .ok (.getfield 14, 3) := by decide +kernel
theorem dX0_reasonAgainst_14 : decode cX0_reasonAgainst 14 = .ok (.iload_n 1, 1) := by decide +kernel
theorem dX0_reasonAgainst_15 : decode cX0_reasonAgainst 15 = .ok (.iconst 5, 1) := by decide +kernel
theorem dX0_reasonAgainst_16 : decode cX0_reasonAgainst 16 = .ok (.invokevirtual 99, 3) := by decide +kernel
theorem dX0_reasonAgainst_19 : decode cX0_reasonAgainst 19 = .ok (.istore_n 3, 1) := by decide +kernel
theorem dX0_reasonAgainst_20 : decode cX0_reasonAgainst 20 = .ok (.iload_n 3, 1) := by decide +kernel
theorem dX0_reasonAgainst_21 : decode cX0_reasonAgainst 21 = .ok (.iconst (-1), 1) := by decide +kernel
theorem dX0_reasonAgainst_22 : decode cX0_reasonAgainst 22 = .ok (.if_icmp .eq 13, 3) := by decide +kernel
theorem dX0_reasonAgainst_25 : decode cX0_reasonAgainst 25 = .ok (.aload_n 0, 1) := by decide +kernel
theorem dX0_reasonAgainst_26 : decode cX0_reasonAgainst 26 = .ok (.iload_n 3, 1) := by decide +kernel
theorem dX0_reasonAgainst_27 : decode cX0_reasonAgainst 27 = .ok (.invokevirtual 96, 3) := by decide +kernel
theorem dX0_reasonAgainst_30 : decode cX0_reasonAgainst 30 = .ok (.ifCond .ne 5, 3) := by decide +kernel
theorem dX0_reasonAgainst_33 : decode cX0_reasonAgainst 33 = .ok (.iconst 2, 1) := by decide +kernel
theorem dX0_reasonAgainst_34 : decode cX0_reasonAgainst 34 = .ok (.ireturn, 1) := by decide +kernel
theorem dX0_reasonAgainst_35 : decode cX0_reasonAgainst 35 = .ok (.aload_n 0, 1) := by decide +kernel
theorem dX0_reasonAgainst_36 : decode cX0_reasonAgainst 36 = .ok (.iload_n 1, 1) := by decide +kernel
theorem dX0_reasonAgainst_37 : decode cX0_reasonAgainst 37 = .ok (.aload_n 0, 1) := by decide +kernel
theorem dX0_reasonAgainst_38 : decode cX0_reasonAgainst 38 = .ok (.getfield 33, 3) := by decide +kernel
theorem dX0_reasonAgainst_41 : decode cX0_reasonAgainst 41 = .ok (.iload_n 2, 1) := by decide +kernel
theorem dX0_reasonAgainst_42 : decode cX0_reasonAgainst 42 = .ok (.iadd, 1) := by decide +kernel
theorem dX0_reasonAgainst_43 : decode cX0_reasonAgainst 43 = .ok (.bipush 28, 2) := by decide +kernel
theorem dX0_reasonAgainst_45 : decode cX0_reasonAgainst 45 = .ok (.irem, 1) := by decide +kernel
theorem dX0_reasonAgainst_46 : decode cX0_reasonAgainst 46 = .ok (.invokevirtual 123, 3) := by decide +kernel
theorem dX0_reasonAgainst_49 : decode cX0_reasonAgainst 49 = .ok (.istore 4, 2) := by decide +kernel
theorem dX0_reasonAgainst_51 : decode cX0_reasonAgainst 51 = .ok (.iload 4, 2) := by decide +kernel
theorem dX0_reasonAgainst_53 : decode cX0_reasonAgainst 53 = .ok (.ifCond .eq 8, 3) := by decide +kernel
theorem dX0_reasonAgainst_56 : decode cX0_reasonAgainst 56 = .ok (.iload 4, 2) := by decide +kernel
theorem dX0_reasonAgainst_58 : decode cX0_reasonAgainst 58 = .ok (.goto 9, 3) := by decide +kernel
theorem dX0_reasonAgainst_61 : decode cX0_reasonAgainst 61 = .ok (.aload_n 0, 1) := by decide +kernel
theorem dX0_reasonAgainst_62 : decode cX0_reasonAgainst 62 = .ok (.iload_n 1, 1) := by decide +kernel
theorem dX0_reasonAgainst_63 : decode cX0_reasonAgainst 63 = .ok (.iload_n 2, 1) := by decide +kernel
theorem dX0_reasonAgainst_64 : decode cX0_reasonAgainst 64 = .ok (.invokevirtual 126, 3) := by decide +kernel
theorem dX0_reasonAgainst_67 : decode cX0_reasonAgainst 67 = .ok (.ireturn, 1) := by decide +kernel
set_option maxRecDepth 20000 in
theorem ggX0_reasonOfWeather_X5_get : GoodIn wsX0_reasonOfWeather wsX5_get := goodIn_r _ [7, 8, 9, 22, 23] (by decide +kernel) (by decide +kernel)
set_option maxRecDepth 20000 in
theorem gX0_reasonOfWeather_X5_get : GoodIn wsX0_reasonOfWeather (wsV RX0 99 RX5 yX5_get wsX5_get) := goodIn_app (goodIn_of _ (by decide +kernel)) ggX0_reasonOfWeather_X5_get
theorem dX0_reasonOfWeather_0 : decode cX0_reasonOfWeather 0 = .ok (.aload_n 0, 1) := by decide +kernel
theorem dX0_reasonOfWeather_1 : decode cX0_reasonOfWeather 1 = .ok (.getfield 20, 3) := by decide +kernel
theorem dX0_reasonOfWeather_4 : decode cX0_reasonOfWeather 4 = .ok (.iload_n 2, 1) := by decide +kernel
theorem dX0_reasonOfWeather_5 : decode cX0_reasonOfWeather 5 = .ok (.iconst 0, 1) := by decide +kernel
theorem dX0_reasonOfWeather_6 : decode cX0_reasonOfWeather 6 = .ok (.invokevirtual 99, 3) := by decide +kernel
theorem dX0_reasonOfWeather_9 : decode cX0_reasonOfWeather 9 = .ok (.aload_n 0, 1) := by decide +kernel
theorem dX0_reasonOfWeather_10 : decode cX0_reasonOfWeather 10 = .ok (.getfield 14, 3) := by decide +kernel
theorem dX0_reasonOfWeather_13 : decode cX0_reasonOfWeather 13 = .ok (.iload_n 1, 1) := by decide +kernel
theorem dX0_reasonOfWeather_14 : decode cX0_reasonOfWeather 14 = .ok (.iconst 0, 1) := by decide +kernel
theorem dX0_reasonOfWeather_15 : decode cX0_reasonOfWeather 15 = .ok (.invokevirtual 99, 3) := by decide +kernel
theorem dX0_reasonOfWeather_18 : decode cX0_reasonOfWeather 18 = .ok (.if_icmp .le 5, 3) := by decide +kernel
theorem dX0_reasonOfWeather_21 : decode cX0_reasonOfWeather 21 = .ok (.iconst 3, 1) := by decide +kernel
theorem dX0_reasonOfWeather_22 : decode cX0_reasonOfWeather 22 = .ok (.ireturn, 1) := by decide +kernel
theorem dX0_reasonOfWeather_23 : decode cX0_reasonOfWeather 23 = .ok (.aload_n 0, 1) := by decide +kernel
theorem dX0_reasonOfWeather_24 : decode cX0_reasonOfWeather 24 = .ok (.getfield 20, 3) := by decide +kernel
theorem dX0_reasonOfWeather_27 : decode cX0_reasonOfWeather 27 = .ok (.iload_n 2, 1) := by decide +kernel
theorem dX0_reasonOfWeather_28 : decode cX0_reasonOfWeather 28 = .ok (.iconst 1, 1) := by decide +kernel
theorem dX0_reasonOfWeather_29 : decode cX0_reasonOfWeather 29 = .ok (.invokevirtual 99, 3) := by decide +kernel
theorem dX0_reasonOfWeather_32 : decode cX0_reasonOfWeather 32 = .ok (.aload_n 0, 1) := by decide +kernel
theorem dX0_reasonOfWeather_33 : decode cX0_reasonOfWeather 33 = .ok (.getfield 14, 3) := by decide +kernel
theorem dX0_reasonOfWeather_36 : decode cX0_reasonOfWeather 36 = .ok (.iload_n 1, 1) := by decide +kernel
theorem dX0_reasonOfWeather_37 : decode cX0_reasonOfWeather 37 = .ok (.iconst 1, 1) := by decide +kernel
theorem dX0_reasonOfWeather_38 : decode cX0_reasonOfWeather 38 = .ok (.invokevirtual 99, 3) := by decide +kernel
theorem dX0_reasonOfWeather_41 : decode cX0_reasonOfWeather 41 = .ok (.if_icmp .ge 5, 3) := by decide +kernel
theorem dX0_reasonOfWeather_44 : decode cX0_reasonOfWeather 44 = .ok (.iconst 4, 1) := by decide +kernel
theorem dX0_reasonOfWeather_45 : decode cX0_reasonOfWeather 45 = .ok (.ireturn, 1) := by decide +kernel
theorem dX0_reasonOfWeather_46 : decode cX0_reasonOfWeather 46 = .ok (.aload_n 0, 1) := by decide +kernel
theorem dX0_reasonOfWeather_47 : decode cX0_reasonOfWeather 47 = .ok (.getfield 20, 3) := by decide +kernel
theorem dX0_reasonOfWeather_50 : decode cX0_reasonOfWeather 50 = .ok (.iload_n 2, 1) := by decide +kernel
theorem dX0_reasonOfWeather_51 : decode cX0_reasonOfWeather 51 = .ok (.iconst 2, 1) := by decide +kernel
theorem dX0_reasonOfWeather_52 : decode cX0_reasonOfWeather 52 = .ok (.invokevirtual 99, 3) := by decide +kernel
theorem dX0_reasonOfWeather_55 : decode cX0_reasonOfWeather 55 = .ok (.aload_n 0, 1) := by decide +kernel
theorem dX0_reasonOfWeather_56 : decode cX0_reasonOfWeather 56 = .ok (.getfield 14, 3) := by decide +kernel
theorem dX0_reasonOfWeather_59 : decode cX0_reasonOfWeather 59 = .ok (.iload_n 1, 1) := by decide +kernel
theorem dX0_reasonOfWeather_60 : decode cX0_reasonOfWeather 60 = .ok (.iconst 2, 1) := by decide +kernel
theorem dX0_reasonOfWeather_61 : decode cX0_reasonOfWeather 61 = .ok (.invokevirtual 99, 3) := by decide +kernel
theorem dX0_reasonOfWeather_64 : decode cX0_reasonOfWeather 64 = .ok (.if_icmp .ge 5, 3) := by decide +kernel
theorem dX0_reasonOfWeather_67 : decode cX0_reasonOfWeather 67 = .ok (.iconst 5, 1) := by decide +kernel
theorem dX0_reasonOfWeather_68 : decode cX0_reasonOfWeather 68 = .ok (.ireturn, 1) := by decide +kernel
theorem dX0_reasonOfWeather_69 : decode cX0_reasonOfWeather 69 = .ok (.iconst 0, 1) := by decide +kernel
theorem dX0_reasonOfWeather_70 : decode cX0_reasonOfWeather 70 = .ok (.ireturn, 1) := by decide +kernel
set_option maxRecDepth 20000 in
theorem ggX0_reasonOfTaking_X0_weekOf : GoodIn wsX0_reasonOfTaking wsX0_weekOf := goodIn_r _ [10] (by decide +kernel) (by decide +kernel)
set_option maxRecDepth 20000 in
theorem gX0_reasonOfTaking_X0_weekOf : GoodIn wsX0_reasonOfTaking (va_wsS RX0 112 yX0_weekOf wsX0_weekOf) := goodIn_app (goodIn_of _ (by decide +kernel)) ggX0_reasonOfTaking_X0_weekOf
set_option maxRecDepth 20000 in
theorem ggX0_reasonOfTaking_X5_get : GoodIn wsX0_reasonOfTaking wsX5_get := goodIn_r _ [15, 16, 17, 30, 31] (by decide +kernel) (by decide +kernel)
set_option maxRecDepth 20000 in
theorem gX0_reasonOfTaking_X5_get : GoodIn wsX0_reasonOfTaking (wsV RX0 99 RX5 yX5_get wsX5_get) := goodIn_app (goodIn_of _ (by decide +kernel)) ggX0_reasonOfTaking_X5_get
theorem dX0_reasonOfTaking_0 : decode cX0_reasonOfTaking 0 = .ok (.iload_n 2, 1) := by decide +kernel
theorem dX0_reasonOfTaking_1 : decode cX0_reasonOfTaking 1 = .ok (.ifCond .ne 10, 3) := by decide +kernel
theorem dX0_reasonOfTaking_4 : decode cX0_reasonOfTaking 4 = .ok (.aload_n 0, 1) := by decide +kernel
theorem dX0_reasonOfTaking_5 : decode cX0_reasonOfTaking 5 = .ok (.getfield 36, 3) := by decide +kernel
theorem dX0_reasonOfTaking_8 : decode cX0_reasonOfTaking 8 = .ok (.goto 4, 3) := by decide +kernel
theorem dX0_reasonOfTaking_11 : decode cX0_reasonOfTaking 11 = .ok (.iconst 0, 1) := by decide +kernel
theorem dX0_reasonOfTaking_12 : decode cX0_reasonOfTaking 12 = .ok (.istore_n 3, 1) := by decide +kernel
theorem dX0_reasonOfTaking_13 : decode cX0_reasonOfTaking 13 = .ok (.iload_n 2, 1) := by decide +kernel
theorem dX0_reasonOfTaking_14 : decode cX0_reasonOfTaking 14 = .ok (.ifCond .ne 10, 3) := by decide +kernel
theorem dX0_reasonOfTaking_17 : decode cX0_reasonOfTaking 17 = .ok (.aload_n 0, 1) := by decide +kernel
theorem dX0_reasonOfTaking_18 : decode cX0_reasonOfTaking 18 = .ok (.getfield 39, 3) := by decide +kernel
theorem dX0_reasonOfTaking_21 : decode cX0_reasonOfTaking 21 = .ok (.goto 4, 3) := by decide +kernel
theorem dX0_reasonOfTaking_24 : decode cX0_reasonOfTaking 24 = .ok (.iconst 0, 1) := by decide +kernel
theorem dX0_reasonOfTaking_25 : decode cX0_reasonOfTaking 25 = .ok (.istore 4, 2) := by decide +kernel
theorem dX0_reasonOfTaking_27 : decode cX0_reasonOfTaking 27 = .ok (.aload_n 0, 1) := by decide +kernel
theorem dX0_reasonOfTaking_28 : decode cX0_reasonOfTaking 28 = .ok (.getfield 33, 3) := by decide +kernel
theorem dX0_reasonOfTaking_31 : decode cX0_reasonOfTaking 31 = .ok (.iload_n 2, 1) := by decide +kernel
theorem dX0_reasonOfTaking_32 : decode cX0_reasonOfTaking 32 = .ok (.iadd, 1) := by decide +kernel
theorem dX0_reasonOfTaking_33 : decode cX0_reasonOfTaking 33 = .ok (.invokestatic 112, 3) := by decide +kernel
theorem dX0_reasonOfTaking_36 : decode cX0_reasonOfTaking 36 = .ok (.aload_n 0, 1) := by decide +kernel
theorem dX0_reasonOfTaking_37 : decode cX0_reasonOfTaking 37 = .ok (.getfield 33, 3) := by decide +kernel
theorem dX0_reasonOfTaking_40 : decode cX0_reasonOfTaking 40 = .ok (.invokestatic 112, 3) := by decide +kernel
theorem dX0_reasonOfTaking_43 : decode cX0_reasonOfTaking 43 = .ok (.if_icmp .ne 10, 3) := by decide +kernel
theorem dX0_reasonOfTaking_46 : decode cX0_reasonOfTaking 46 = .ok (.aload_n 0, 1) := by decide +kernel
theorem dX0_reasonOfTaking_47 : decode cX0_reasonOfTaking 47 = .ok (.getfield 42, 3) := by decide +kernel
theorem dX0_reasonOfTaking_50 : decode cX0_reasonOfTaking 50 = .ok (.goto 4, 3) := by decide +kernel
theorem dX0_reasonOfTaking_53 : decode cX0_reasonOfTaking 53 = .ok (.iconst 0, 1) := by decide +kernel
theorem dX0_reasonOfTaking_54 : decode cX0_reasonOfTaking 54 = .ok (.istore 5, 2) := by decide +kernel
theorem dX0_reasonOfTaking_56 : decode cX0_reasonOfTaking 56 = .ok (.iload_n 3, 1) := by decide +kernel
theorem dX0_reasonOfTaking_57 : decode cX0_reasonOfTaking 57 = .ok (.iconst 1, 1) := by decide +kernel
theorem dX0_reasonOfTaking_58 : decode cX0_reasonOfTaking 58 = .ok (.iadd, 1) := by decide +kernel
theorem dX0_reasonOfTaking_59 : decode cX0_reasonOfTaking 59 = .ok (.aload_n 0, 1) := by decide +kernel
theorem dX0_reasonOfTaking_60 : decode cX0_reasonOfTaking 60 = .ok (.getfield 26, 3) := by decide +kernel
theorem dX0_reasonOfTaking_63 : decode cX0_reasonOfTaking 63 = .ok (.iconst 0, 1) := by decide +kernel
theorem dX0_reasonOfTaking_64 : decode cX0_reasonOfTaking 64 = .ok (.iconst 1, 1) := by decide +kernel
theorem dX0_reasonOfTaking_65 : decode cX0_reasonOfTaking 65 = .ok (.invokevirtual 99, 3) := by decide +kernel
theorem dX0_reasonOfTaking_68 : decode cX0_reasonOfTaking 68 = .ok (.if_icmp .le 6, 3) := by decide +kernel
theorem dX0_reasonOfTaking_71 : decode cX0_reasonOfTaking 71 = .ok (.bipush 6, 2) := by decide +kernel
theorem dX0_reasonOfTaking_73 : decode cX0_reasonOfTaking 73 = .ok (.ireturn, 1) := by decide +kernel
theorem dX0_reasonOfTaking_74 : decode cX0_reasonOfTaking 74 = .ok (.iload 4, 2) := by decide +kernel
theorem dX0_reasonOfTaking_76 : decode cX0_reasonOfTaking 76 = .ok (.aload_n 0, 1) := by decide +kernel
theorem dX0_reasonOfTaking_77 : decode cX0_reasonOfTaking 77 = .ok (.getfield 14, 3) := by decide +kernel
theorem dX0_reasonOfTaking_80 : decode cX0_reasonOfTaking 80 = .ok (.iload_n 1, 1) := by decide +kernel
theorem dX0_reasonOfTaking_81 : decode cX0_reasonOfTaking 81 = .ok (.iconst 3, 1) := by decide +kernel
theorem dX0_reasonOfTaking_82 : decode cX0_reasonOfTaking 82 = .ok (.invokevirtual 99, 3) := by decide +kernel
theorem dX0_reasonOfTaking_85 : decode cX0_reasonOfTaking 85 = .ok (.iadd, 1) := by decide +kernel
theorem dX0_reasonOfTaking_86 : decode cX0_reasonOfTaking 86 = .ok (.aload_n 0, 1) := by decide +kernel
theorem dX0_reasonOfTaking_87 : decode cX0_reasonOfTaking 87 = .ok (.getfield 26, 3) := by decide +kernel
theorem dX0_reasonOfTaking_90 : decode cX0_reasonOfTaking 90 = .ok (.iconst 0, 1) := by decide +kernel
theorem dX0_reasonOfTaking_91 : decode cX0_reasonOfTaking 91 = .ok (.iconst 0, 1) := by decide +kernel
theorem dX0_reasonOfTaking_92 : decode cX0_reasonOfTaking 92 = .ok (.invokevirtual 99, 3) := by decide +kernel
theorem dX0_reasonOfTaking_95 : decode cX0_reasonOfTaking 95 = .ok (.if_icmp .le 6, 3) := by decide +kernel
theorem dX0_reasonOfTaking_98 : decode cX0_reasonOfTaking 98 = .ok (.bipush 7, 2) := by decide +kernel
theorem dX0_reasonOfTaking_100 : decode cX0_reasonOfTaking 100 = .ok (.ireturn, 1) := by decide +kernel
theorem dX0_reasonOfTaking_101 : decode cX0_reasonOfTaking 101 = .ok (.iload 5, 2) := by decide +kernel
theorem dX0_reasonOfTaking_103 : decode cX0_reasonOfTaking 103 = .ok (.aload_n 0, 1) := by decide +kernel
theorem dX0_reasonOfTaking_104 : decode cX0_reasonOfTaking 104 = .ok (.getfield 14, 3) := by decide +kernel
theorem dX0_reasonOfTaking_107 : decode cX0_reasonOfTaking 107 = .ok (.iload_n 1, 1) := by decide +kernel
theorem dX0_reasonOfTaking_108 : decode cX0_reasonOfTaking 108 = .ok (.iconst 4, 1) := by decide +kernel
theorem dX0_reasonOfTaking_109 : decode cX0_reasonOfTaking 109 = .ok (.invokevirtual 99, 3) := by decide +kernel
theorem dX0_reasonOfTaking_112 : decode cX0_reasonOfTaking 112 = .ok (.iadd, 1) := by decide +kernel
theorem dX0_reasonOfTaking_113 : decode cX0_reasonOfTaking 113 = .ok (.aload_n 0, 1) := by decide +kernel
theorem dX0_reasonOfTaking_114 : decode cX0_reasonOfTaking 114 = .ok (.getfield 26, 3) := by decide +kernel
theorem dX0_reasonOfTaking_117 : decode cX0_reasonOfTaking 117 = .ok (.iconst 0, 1) := by decide +kernel
theorem dX0_reasonOfTaking_118 : decode cX0_reasonOfTaking 118 = .ok (.iconst 2, 1) := by decide +kernel
theorem dX0_reasonOfTaking_119 : decode cX0_reasonOfTaking 119 = .ok (.invokevirtual 99, 3) := by decide +kernel
theorem dX0_reasonOfTaking_122 : decode cX0_reasonOfTaking 122 = .ok (.if_icmp .le 6, 3) := by decide +kernel
theorem dX0_reasonOfTaking_125 : decode cX0_reasonOfTaking 125 = .ok (.bipush 8, 2) := by decide +kernel
theorem dX0_reasonOfTaking_127 : decode cX0_reasonOfTaking 127 = .ok (.ireturn, 1) := by decide +kernel
theorem dX0_reasonOfTaking_128 : decode cX0_reasonOfTaking 128 = .ok (.iconst 0, 1) := by decide +kernel
theorem dX0_reasonOfTaking_129 : decode cX0_reasonOfTaking 129 = .ok (.ireturn, 1) := by decide +kernel
set_option maxRecDepth 20000 in
theorem ggX0_isDone_X5_get : GoodIn wsX0_isDone wsX5_get := goodIn_r _ [6, 7, 8, 21, 22] (by decide +kernel) (by decide +kernel)
set_option maxRecDepth 20000 in
theorem gX0_isDone_X5_get : GoodIn wsX0_isDone (wsV RX0 99 RX5 yX5_get wsX5_get) := goodIn_app (goodIn_of _ (by decide +kernel)) ggX0_isDone_X5_get
theorem dX0_isDone_0 : decode cX0_isDone 0 = .ok (.aload_n 0, 1) := by decide +kernel
theorem dX0_isDone_1 : decode cX0_isDone 1 = .ok (.getfield 14, 3) := by decide +kernel
theorem dX0_isDone_4 : decode cX0_isDone 4 = .ok (.iload_n 1, 1) := by decide +kernel
theorem dX0_isDone_5 : decode cX0_isDone 5 = .ok (.bipush 6, 2) := by decide +kernel
theorem dX0_isDone_7 : decode cX0_isDone 7 = .ok (.invokevirtual 99, 3) := by decide +kernel
theorem dX0_isDone_10 : decode cX0_isDone 10 = .ok (.istore_n 2, 1) := by decide +kernel
theorem dX0_isDone_11 : decode cX0_isDone 11 = .ok (.iload_n 2, 1) := by decide +kernel
theorem dX0_isDone_12 : decode cX0_isDone 12 = .ok (.iconst 1, 1) := by decide +kernel
theorem dX0_isDone_13 : decode cX0_isDone 13 = .ok (.if_icmp .eq 8, 3) := by decide +kernel
theorem dX0_isDone_16 : decode cX0_isDone 16 = .ok (.iload_n 2, 1) := by decide +kernel
theorem dX0_isDone_17 : decode cX0_isDone 17 = .ok (.iconst 3, 1) := by decide +kernel
theorem dX0_isDone_18 : decode cX0_isDone 18 = .ok (.if_icmp .ne 7, 3) := by decide +kernel
theorem dX0_isDone_21 : decode cX0_isDone 21 = .ok (.iconst 1, 1) := by decide +kernel
theorem dX0_isDone_22 : decode cX0_isDone 22 = .ok (.goto 4, 3) := by decide +kernel
theorem dX0_isDone_25 : decode cX0_isDone 25 = .ok (.iconst 0, 1) := by decide +kernel
theorem dX0_isDone_26 : decode cX0_isDone 26 = .ok (.ireturn, 1) := by decide +kernel
set_option maxRecDepth 20000 in
theorem ggX0_followersOf_X5_get : GoodIn wsX0_followersOf wsX5_get := goodIn_r _ [7, 8, 9, 22, 23] (by decide +kernel) (by decide +kernel)
set_option maxRecDepth 20000 in
theorem gX0_followersOf_X5_get : GoodIn wsX0_followersOf (wsV RX0 99 RX5 yX5_get wsX5_get) := goodIn_app (goodIn_of _ (by decide +kernel)) ggX0_followersOf_X5_get
theorem dX0_followersOf_0 : decode cX0_followersOf 0 = .ok (.iconst 0, 1) := by decide +kernel
theorem dX0_followersOf_1 : decode cX0_followersOf 1 = .ok (.istore_n 2, 1) := by decide +kernel
theorem dX0_followersOf_2 : decode cX0_followersOf 2 = .ok (.iload_n 1, 1) := by decide +kernel
theorem dX0_followersOf_3 : decode cX0_followersOf 3 = .ok (.iconst 1, 1) := by decide +kernel
theorem dX0_followersOf_4 : decode cX0_followersOf 4 = .ok (.iadd, 1) := by decide +kernel
theorem dX0_followersOf_5 : decode cX0_followersOf 5 = .ok (.istore_n 3, 1) := by decide +kernel
theorem dX0_followersOf_6 : decode cX0_followersOf 6 = .ok (.iload_n 3, 1) := by decide +kernel
theorem dX0_followersOf_7 : decode cX0_followersOf 7 = .ok (.aload_n 0, 1) := by decide +kernel
theorem dX0_followersOf_8 : decode cX0_followersOf 8 = .ok (.getfield 29, 3) := by decide +kernel
theorem dX0_followersOf_11 : decode cX0_followersOf 11 = .ok (.if_icmp .ge 48, 3) := by decide +kernel
theorem dX0_followersOf_14 : decode cX0_followersOf 14 = .ok (.aload_n 0, 1) := by decide +kernel
theorem dX0_followersOf_15 : decode cX0_followersOf 15 = .ok (.getfield 14, 3) := by decide +kernel
theorem dX0_followersOf_18 : decode cX0_followersOf 18 = .ok (.iload_n 3, 1) := by decide +kernel
theorem dX0_followersOf_19 : decode cX0_followersOf 19 = .ok (.iconst 5, 1) := by decide +kernel
theorem dX0_followersOf_20 : decode cX0_followersOf 20 = .ok (.invokevirtual 99, 3) := by decide +kernel
theorem dX0_followersOf_23 : decode cX0_followersOf 23 = .ok (.istore 4, 2) := by decide +kernel
theorem dX0_followersOf_25 : decode cX0_followersOf 25 = .ok (.iload 4, 2) := by decide +kernel
theorem dX0_followersOf_27 : decode cX0_followersOf 27 = .ok (.iload_n 1, 1) := by decide +kernel
theorem dX0_followersOf_28 : decode cX0_followersOf 28 = .ok (.if_icmp .eq 19, 3) := by decide +kernel
theorem dX0_followersOf_31 : decode cX0_followersOf 31 = .ok (.iload 4, 2) := by decide +kernel
theorem dX0_followersOf_33 : decode cX0_followersOf 33 = .ok (.iconst (-1), 1) := by decide +kernel
theorem dX0_followersOf_34 : decode cX0_followersOf 34 = .ok (.if_icmp .eq 19, 3) := by decide +kernel
theorem dX0_followersOf_37 : decode cX0_followersOf 37 = .ok (.iload_n 2, 1) := by decide +kernel
theorem dX0_followersOf_38 : decode cX0_followersOf 38 = .ok (.iload 4, 2) := by decide +kernel
theorem dX0_followersOf_40 : decode cX0_followersOf 40 = .ok (.ishr, 1) := by decide +kernel
theorem dX0_followersOf_41 : decode cX0_followersOf 41 = .ok (.iconst 1, 1) := by decide +kernel
theorem dX0_followersOf_42 : decode cX0_followersOf 42 = .ok (.iand, 1) := by decide +kernel
theorem dX0_followersOf_43 : decode cX0_followersOf 43 = .ok (.iconst 1, 1) := by decide +kernel
theorem dX0_followersOf_44 : decode cX0_followersOf 44 = .ok (.if_icmp .ne 9, 3) := by decide +kernel
theorem dX0_followersOf_47 : decode cX0_followersOf 47 = .ok (.iload_n 2, 1) := by decide +kernel
theorem dX0_followersOf_48 : decode cX0_followersOf 48 = .ok (.iconst 1, 1) := by decide +kernel
theorem dX0_followersOf_49 : decode cX0_followersOf 49 = .ok (.iload_n 3, 1) := by decide +kernel
theorem dX0_followersOf_50 : decode cX0_followersOf 50 = .ok (.ishl, 1) := by decide +kernel
theorem dX0_followersOf_51 : decode cX0_followersOf 51 = .ok (.ior, 1) := by decide +kernel
theorem dX0_followersOf_52 : decode cX0_followersOf 52 = .ok (.istore_n 2, 1) := by decide +kernel
theorem dX0_followersOf_53 : decode cX0_followersOf 53 = .ok (.iinc 3 1, 3) := by decide +kernel
theorem dX0_followersOf_56 : decode cX0_followersOf 56 = .ok (.goto (-50), 3) := by decide +kernel
theorem dX0_followersOf_59 : decode cX0_followersOf 59 = .ok (.iload_n 2, 1) := by decide +kernel
theorem dX0_followersOf_60 : decode cX0_followersOf 60 = .ok (.ireturn, 1) := by decide +kernel
set_option maxRecDepth 20000 in
theorem ggX0_stepsAheadOf_X5_get : GoodIn wsX0_stepsAheadOf wsX5_get := goodIn_r _ [6, 7, 8, 21, 22] (by decide +kernel) (by decide +kernel)
set_option maxRecDepth 20000 in
theorem gX0_stepsAheadOf_X5_get : GoodIn wsX0_stepsAheadOf (wsV RX0 99 RX5 yX5_get wsX5_get) := goodIn_app (goodIn_of _ (by decide +kernel)) ggX0_stepsAheadOf_X5_get
theorem dX0_stepsAheadOf_0 : decode cX0_stepsAheadOf 0 = .ok (.iconst 0, 1) := by decide +kernel
theorem dX0_stepsAheadOf_1 : decode cX0_stepsAheadOf 1 = .ok (.istore_n 2, 1) := by decide +kernel
theorem dX0_stepsAheadOf_2 : decode cX0_stepsAheadOf 2 = .ok (.aload_n 0, 1) := by decide +kernel
theorem dX0_stepsAheadOf_3 : decode cX0_stepsAheadOf 3 = .ok (.getfield 14, 3) := by decide +kernel
theorem dX0_stepsAheadOf_6 : decode cX0_stepsAheadOf 6 = .ok (.iload_n 1, 1) := by decide +kernel
theorem dX0_stepsAheadOf_7 : decode cX0_stepsAheadOf 7 = .ok (.iconst 5, 1) := by decide +kernel
theorem dX0_stepsAheadOf_8 : decode cX0_stepsAheadOf 8 = .ok (.invokevirtual 99, 3) := by decide +kernel
theorem dX0_stepsAheadOf_11 : decode cX0_stepsAheadOf 11 = .ok (.istore_n 3, 1) := by decide +kernel
theorem dX0_stepsAheadOf_12 : decode cX0_stepsAheadOf 12 = .ok (.iload_n 3, 1) := by decide +kernel
theorem dX0_stepsAheadOf_13 : decode cX0_stepsAheadOf 13 = .ok (.iconst (-1), 1) := by decide +kernel
theorem dX0_stepsAheadOf_14 : decode cX0_stepsAheadOf 14 = .ok (.if_icmp .eq 25, 3) := by decide +kernel
theorem dX0_stepsAheadOf_17 : decode cX0_stepsAheadOf 17 = .ok (.iload_n 2, 1) := by decide +kernel
theorem dX0_stepsAheadOf_18 : decode cX0_stepsAheadOf 18 = .ok (.bipush 12, 2) := by decide +kernel
theorem dX0_stepsAheadOf_20 : decode cX0_stepsAheadOf 20 = .ok (.if_icmp .ge 19, 3) := by decide +kernel
theorem dX0_stepsAheadOf_23 : decode cX0_stepsAheadOf 23 = .ok (.iinc 2 1, 3) := by decide +kernel
theorem dX0_stepsAheadOf_26 : decode cX0_stepsAheadOf 26 = .ok (.aload_n 0, 1) := by decide +kernel
theorem dX0_stepsAheadOf_27 : decode cX0_stepsAheadOf 27 = .ok (.getfield 14, 3) := by decide +kernel
theorem dX0_stepsAheadOf_30 : decode cX0_stepsAheadOf 30 = .ok (.iload_n 3, 1) := by decide +kernel
theorem dX0_stepsAheadOf_31 : decode cX0_stepsAheadOf 31 = .ok (.iconst 5, 1) := by decide +kernel
theorem dX0_stepsAheadOf_32 : decode cX0_stepsAheadOf 32 = .ok (.invokevirtual 99, 3) := by decide +kernel
theorem dX0_stepsAheadOf_35 : decode cX0_stepsAheadOf 35 = .ok (.istore_n 3, 1) := by decide +kernel
theorem dX0_stepsAheadOf_36 : decode cX0_stepsAheadOf 36 = .ok (.goto (-24), 3) := by decide +kernel
theorem dX0_stepsAheadOf_39 : decode cX0_stepsAheadOf 39 = .ok (.iload_n 2, 1) := by decide +kernel
theorem dX0_stepsAheadOf_40 : decode cX0_stepsAheadOf 40 = .ok (.ireturn, 1) := by decide +kernel
set_option maxRecDepth 20000 in
theorem ggX0_cardsInState_X5_get : GoodIn wsX0_cardsInState wsX5_get := goodIn_r _ [7, 8, 9, 22, 23] (by decide +kernel) (by decide +kernel)
set_option maxRecDepth 20000 in
theorem gX0_cardsInState_X5_get : GoodIn wsX0_cardsInState (wsV RX0 99 RX5 yX5_get wsX5_get) := goodIn_app (goodIn_of _ (by decide +kernel)) ggX0_cardsInState_X5_get
theorem dX0_cardsInState_0 : decode cX0_cardsInState 0 = .ok (.iconst 0, 1) := by decide +kernel
theorem dX0_cardsInState_1 : decode cX0_cardsInState 1 = .ok (.istore_n 2, 1) := by decide +kernel
theorem dX0_cardsInState_2 : decode cX0_cardsInState 2 = .ok (.iconst 0, 1) := by decide +kernel
theorem dX0_cardsInState_3 : decode cX0_cardsInState 3 = .ok (.istore_n 3, 1) := by decide +kernel
theorem dX0_cardsInState_4 : decode cX0_cardsInState 4 = .ok (.iload_n 3, 1) := by decide +kernel
theorem dX0_cardsInState_5 : decode cX0_cardsInState 5 = .ok (.aload_n 0, 1) := by decide +kernel
theorem dX0_cardsInState_6 : decode cX0_cardsInState 6 = .ok (.getfield 29, 3) := by decide +kernel
theorem dX0_cardsInState_9 : decode cX0_cardsInState 9 = .ok (.if_icmp .ge 29, 3) := by decide +kernel
theorem dX0_cardsInState_12 : decode cX0_cardsInState 12 = .ok (.aload_n 0, 1) := by decide +kernel
theorem dX0_cardsInState_13 : decode cX0_cardsInState 13 = .ok (.getfield 14, 3) := by decide +kernel
theorem dX0_cardsInState_16 : decode cX0_cardsInState 16 = .ok (.iload_n 3, 1) := by decide +kernel
theorem dX0_cardsInState_17 : decode cX0_cardsInState 17 = .ok (.bipush 6, 2) := by decide +kernel
theorem dX0_cardsInState_19 : decode cX0_cardsInState 19 = .ok (.invokevirtual 99, 3) := by decide +kernel
theorem dX0_cardsInState_22 : decode cX0_cardsInState 22 = .ok (.iload_n 1, 1) := by decide +kernel
theorem dX0_cardsInState_23 : decode cX0_cardsInState 23 = .ok (.if_icmp .ne 9, 3) := by decide +kernel
theorem dX0_cardsInState_26 : decode cX0_cardsInState 26 = .ok (.iload_n 2, 1) := by decide +kernel
theorem dX0_cardsInState_27 : decode cX0_cardsInState 27 = .ok (.iconst 1, 1) := by decide +kernel
theorem dX0_cardsInState_28 : decode cX0_cardsInState 28 = .ok (.iload_n 3, 1) := by decide +kernel
theorem dX0_cardsInState_29 : decode cX0_cardsInState 29 = .ok (.ishl, 1) := by decide +kernel
theorem dX0_cardsInState_30 : decode cX0_cardsInState 30 = .ok (.ior, 1) := by decide +kernel
theorem dX0_cardsInState_31 : decode cX0_cardsInState 31 = .ok (.istore_n 2, 1) := by decide +kernel
theorem dX0_cardsInState_32 : decode cX0_cardsInState 32 = .ok (.iinc 3 1, 3) := by decide +kernel
theorem dX0_cardsInState_35 : decode cX0_cardsInState 35 = .ok (.goto (-31), 3) := by decide +kernel
theorem dX0_cardsInState_38 : decode cX0_cardsInState 38 = .ok (.iload_n 2, 1) := by decide +kernel
theorem dX0_cardsInState_39 : decode cX0_cardsInState 39 = .ok (.ireturn, 1) := by decide +kernel
set_option maxRecDepth 20000 in
theorem ggX0_cardsLeft_X0_cardsInState : GoodIn wsX0_cardsLeft wsX0_cardsInState := goodIn_r _ [5, 6, 7, 8, 9, 10, 11, 12, 13, 14, 15, 16, 17, 18, 19, 20, 21, 22, 23, 24, 25, 26, 27, 28] (by decide +kernel) (by decide +kernel)
set_option maxRecDepth 20000 in
theorem gX0_cardsLeft_X0_cardsInState : GoodIn wsX0_cardsLeft (wsV RX0 105 RX0 yX0_cardsInState wsX0_cardsInState) := goodIn_app (goodIn_of _ (by decide +kernel)) ggX0_cardsLeft_X0_cardsInState
theorem dX0_cardsLeft_0 : decode cX0_cardsLeft 0 = .ok (.aload_n 0, 1) := by decide +kernel
theorem dX0_cardsLeft_1 : decode cX0_cardsLeft 1 = .ok (.iconst 0, 1) := by decide +kernel
theorem dX0_cardsLeft_2 : decode cX0_cardsLeft 2 = .ok (.invokevirtual 105, 3) := by decide +kernel
theorem dX0_cardsLeft_5 : decode cX0_cardsLeft 5 = .ok (.aload_n 0, 1) := by decide +kernel
theorem dX0_cardsLeft_6 : decode cX0_cardsLeft 6 = .ok (.iconst 2, 1) := by decide +kernel
theorem dX0_cardsLeft_7 : decode cX0_cardsLeft 7 = .ok (.invokevirtual 105, 3) := by decide +kernel
theorem dX0_cardsLeft_10 : decode cX0_cardsLeft 10 = .ok (.ior, 1) := by decide +kernel
theorem dX0_cardsLeft_11 : decode cX0_cardsLeft 11 = .ok (.ireturn, 1) := by decide +kernel
set_option maxRecDepth 20000 in
theorem ggX0_cardsForWeather_X0_reasonOfWeather : GoodIn wsX0_cardsForWeather wsX0_reasonOfWeather := goodIn_r _ [6, 7, 8, 9, 10, 11, 12, 13, 14, 15, 16, 17, 18, 19, 20, 21, 22, 23, 24, 25, 26, 27, 28, 29] (by decide +kernel) (by decide +kernel)
set_option maxRecDepth 20000 in
theorem gX0_cardsForWeather_X0_reasonOfWeather : GoodIn wsX0_cardsForWeather (wsV RX0 123 RX0 yX0_reasonOfWeather wsX0_reasonOfWeather) := goodIn_app (goodIn_of _ (by decide +kernel)) ggX0_cardsForWeather_X0_reasonOfWeather
theorem dX0_cardsForWeather_0 : decode cX0_cardsForWeather 0 = .ok (.iconst 0, 1) := by decide +kernel
theorem dX0_cardsForWeather_1 : decode cX0_cardsForWeather 1 = .ok (.istore_n 2, 1) := by decide +kernel
theorem dX0_cardsForWeather_2 : decode cX0_cardsForWeather 2 = .ok (.iconst 0, 1) := by decide +kernel
theorem dX0_cardsForWeather_3 : decode cX0_cardsForWeather 3 = .ok (.istore_n 3, 1) := by decide +kernel
theorem dX0_cardsForWeather_4 : decode cX0_cardsForWeather 4 = .ok (.iload_n 3, 1) := by decide +kernel
theorem dX0_cardsForWeather_5 : decode cX0_cardsForWeather 5 = .ok (.aload_n 0, 1) := by decide +kernel
theorem dX0_cardsForWeather_6 : decode cX0_cardsForWeather 6 = .ok (.getfield 29, 3) := by decide +kernel
theorem dX0_cardsForWeather_9 : decode cX0_cardsForWeather 9 = .ok (.if_icmp .ge 24, 3) := by decide +kernel
theorem dX0_cardsForWeather_12 : decode cX0_cardsForWeather 12 = .ok (.aload_n 0, 1) := by decide +kernel
theorem dX0_cardsForWeather_13 : decode cX0_cardsForWeather 13 = .ok (.iload_n 3, 1) := by decide +kernel
theorem dX0_cardsForWeather_14 : decode cX0_cardsForWeather 14 = .ok (.iload_n 1, 1) := by decide +kernel
theorem dX0_cardsForWeather_15 : decode cX0_cardsForWeather 15 = .ok (.invokevirtual 123, 3) := by decide +kernel
theorem dX0_cardsForWeather_18 : decode cX0_cardsForWeather 18 = .ok (.ifCond .ne 9, 3) := by decide +kernel
theorem dX0_cardsForWeather_21 : decode cX0_cardsForWeather 21 = .ok (.iload_n 2, 1) := by decide +kernel
theorem dX0_cardsForWeather_22 : decode cX0_cardsForWeather 22 = .ok (.iconst 1, 1) := by decide +kernel
theorem dX0_cardsForWeather_23 : decode cX0_cardsForWeather 23 = .ok (.iload_n 3, 1) := by decide +kernel
theorem dX0_cardsForWeather_24 : decode cX0_cardsForWeather 24 = .ok (.ishl, 1) := by decide +kernel
theorem dX0_cardsForWeather_25 : decode cX0_cardsForWeather 25 = .ok (.ior, 1) := by decide +kernel
theorem dX0_cardsForWeather_26 : decode cX0_cardsForWeather 26 = .ok (.istore_n 2, 1) := by decide +kernel
theorem dX0_cardsForWeather_27 : decode cX0_cardsForWeather 27 = .ok (.iinc 3 1, 3) := by decide +kernel
theorem dX0_cardsForWeather_30 : decode cX0_cardsForWeather 30 = .ok (.goto (-26), 3) := by decide +kernel
theorem dX0_cardsForWeather_33 : decode cX0_cardsForWeather 33 = .ok (.iload_n 2, 1) := by decide +kernel
theorem dX0_cardsForWeather_34 : decode cX0_cardsForWeather 34 = .ok (.ireturn, 1) := by decide +kernel
set_option maxRecDepth 20000 in
theorem ggX0_lowestForToday_X0_reasonAgainst : GoodIn wsX0_lowestForToday wsX0_reasonAgainst := goodIn_r _ [6, 7, 8, 9, 10, 11, 5, 12, 13, 14, 15, 16, 17, 18, 19, 20, 21, 22, 23, 24, 25, 26, 27, 28, 29, 30, 31, 32, 33, 34, 35, 36, 37, 38, 39, 40, 41, 42, 43, 44, 45, 46, 47, 48, 49] (by decide +kernel) (by decide +kernel)
set_option maxRecDepth 20000 in
theorem gX0_lowestForToday_X0_reasonAgainst : GoodIn wsX0_lowestForToday (wsV RX0 88 RX0 yX0_reasonAgainst wsX0_reasonAgainst) := goodIn_app (goodIn_of _ (by decide +kernel)) ggX0_lowestForToday_X0_reasonAgainst
theorem dX0_lowestForToday_0 : decode cX0_lowestForToday 0 = .ok (.iconst 0, 1) := by decide +kernel
theorem dX0_lowestForToday_1 : decode cX0_lowestForToday 1 = .ok (.istore_n 1, 1) := by decide +kernel
theorem dX0_lowestForToday_2 : decode cX0_lowestForToday 2 = .ok (.iload_n 1, 1) := by decide +kernel
theorem dX0_lowestForToday_3 : decode cX0_lowestForToday 3 = .ok (.aload_n 0, 1) := by decide +kernel
theorem dX0_lowestForToday_4 : decode cX0_lowestForToday 4 = .ok (.getfield 29, 3) := by decide +kernel
theorem dX0_lowestForToday_7 : decode cX0_lowestForToday 7 = .ok (.if_icmp .ge 20, 3) := by decide +kernel
theorem dX0_lowestForToday_10 : decode cX0_lowestForToday 10 = .ok (.aload_n 0, 1) := by decide +kernel
theorem dX0_lowestForToday_11 : decode cX0_lowestForToday 11 = .ok (.iload_n 1, 1) := by decide +kernel
theorem dX0_lowestForToday_12 : decode cX0_lowestForToday 12 = .ok (.iconst 0, 1) := by decide +kernel
theorem dX0_lowestForToday_13 : decode cX0_lowestForToday 13 = .ok (.invokevirtual 88, 3) := by decide +kernel
theorem dX0_lowestForToday_16 : decode cX0_lowestForToday 16 = .ok (.ifCond .ne 5, 3) := by decide +kernel
theorem dX0_lowestForToday_19 : decode cX0_lowestForToday 19 = .ok (.iload_n 1, 1) := by decide +kernel
theorem dX0_lowestForToday_20 : decode cX0_lowestForToday 20 = .ok (.ireturn, 1) := by decide +kernel
theorem dX0_lowestForToday_21 : decode cX0_lowestForToday 21 = .ok (.iinc 1 1, 3) := by decide +kernel
theorem dX0_lowestForToday_24 : decode cX0_lowestForToday 24 = .ok (.goto (-22), 3) := by decide +kernel
theorem dX0_lowestForToday_27 : decode cX0_lowestForToday 27 = .ok (.iconst (-1), 1) := by decide +kernel
theorem dX0_lowestForToday_28 : decode cX0_lowestForToday 28 = .ok (.ireturn, 1) := by decide +kernel
set_option maxRecDepth 20000 in
theorem ggX0_putWeather_X5_put : GoodIn wsX0_putWeather wsX5_put := goodIn_r _ [6, 7, 8, 21, 22] (by decide +kernel) (by decide +kernel)
set_option maxRecDepth 20000 in
theorem gX0_putWeather_X5_put : GoodIn wsX0_putWeather (wsV RX0 58 RX5 yX5_put wsX5_put) := goodIn_app (goodIn_of _ (by decide +kernel)) ggX0_putWeather_X5_put
theorem dX0_putWeather_0 : decode cX0_putWeather 0 = .ok (.aload_n 0, 1) := by decide +kernel
theorem dX0_putWeather_1 : decode cX0_putWeather 1 = .ok (.getfield 20, 3) := by decide +kernel
theorem dX0_putWeather_4 : decode cX0_putWeather 4 = .ok (.iload_n 1, 1) := by decide +kernel
theorem dX0_putWeather_5 : decode cX0_putWeather 5 = .ok (.iconst 0, 1) := by decide +kernel
theorem dX0_putWeather_6 : decode cX0_putWeather 6 = .ok (.iload_n 2, 1) := by decide +kernel
theorem dX0_putWeather_7 : decode cX0_putWeather 7 = .ok (.invokevirtual 58, 3) := by decide +kernel
theorem dX0_putWeather_10 : decode cX0_putWeather 10 = .ok (.aload_n 0, 1) := by decide +kernel
theorem dX0_putWeather_11 : decode cX0_putWeather 11 = .ok (.getfield 20, 3) := by decide +kernel
theorem dX0_putWeather_14 : decode cX0_putWeather 14 = .ok (.iload_n 1, 1) := by decide +kernel
theorem dX0_putWeather_15 : decode cX0_putWeather 15 = .ok (.iconst 1, 1) := by decide +kernel
theorem dX0_putWeather_16 : decode cX0_putWeather 16 = .ok (.iload_n 3, 1) := by decide +kernel
theorem dX0_putWeather_17 : decode cX0_putWeather 17 = .ok (.invokevirtual 58, 3) := by decide +kernel
theorem dX0_putWeather_20 : decode cX0_putWeather 20 = .ok (.aload_n 0, 1) := by decide +kernel
theorem dX0_putWeather_21 : decode cX0_putWeather 21 = .ok (.getfield 20, 3) := by decide +kernel
theorem dX0_putWeather_24 : decode cX0_putWeather 24 = .ok (.iload_n 1, 1) := by decide +kernel
theorem dX0_putWeather_25 : decode cX0_putWeather 25 = .ok (.iconst 2, 1) := by decide +kernel
theorem dX0_putWeather_26 : decode cX0_putWeather 26 = .ok (.iload 4, 2) := by decide +kernel
theorem dX0_putWeather_28 : decode cX0_putWeather 28 = .ok (.invokevirtual 58, 3) := by decide +kernel
theorem dX0_putWeather_31 : decode cX0_putWeather 31 = .ok (.return_, 1) := by decide +kernel
set_option maxRecDepth 20000 in
theorem ggX0_areWeatherNumbers_X7_within : GoodIn wsX0_areWeatherNumbers wsX7_within := goodIn_r _ [3] (by decide +kernel) (by decide +kernel)
set_option maxRecDepth 20000 in
theorem gX0_areWeatherNumbers_X7_within_n70 : GoodIn wsX0_areWeatherNumbers (wsX7_within) := ggX0_areWeatherNumbers_X7_within
theorem dX0_areWeatherNumbers_0 : decode cX0_areWeatherNumbers 0 = .ok (.iload_n 0, 1) := by decide +kernel
theorem dX0_areWeatherNumbers_1 : decode cX0_areWeatherNumbers 1 = .ok (.iconst 0, 1) := by decide +kernel
theorem dX0_areWeatherNumbers_2 : decode cX0_areWeatherNumbers 2 = .ok (.bipush 99, 2) := by decide +kernel
theorem dX0_areWeatherNumbers_4 : decode cX0_areWeatherNumbers 4 = .ok (.invokestatic 70, 3) := by decide +kernel
theorem dX0_areWeatherNumbers_7 : decode cX0_areWeatherNumbers 7 = .ok (.ifCond .eq 27, 3) := by decide +kernel
theorem dX0_areWeatherNumbers_10 : decode cX0_areWeatherNumbers 10 = .ok (.iload_n 1, 1) := by decide +kernel
theorem dX0_areWeatherNumbers_11 : decode cX0_areWeatherNumbers 11 = .ok (.iconst 0, 1) := by decide +kernel
theorem dX0_areWeatherNumbers_12 : decode cX0_areWeatherNumbers 12 = .ok (.bipush 99, 2) := by decide +kernel
theorem dX0_areWeatherNumbers_14 : decode cX0_areWeatherNumbers 14 = .ok (.invokestatic 70, 3) := by decide +kernel
theorem dX0_areWeatherNumbers_17 : decode cX0_areWeatherNumbers 17 = .ok (.ifCond .eq 17, 3) := by decide +kernel
theorem dX0_areWeatherNumbers_20 : decode cX0_areWeatherNumbers 20 = .ok (.iload_n 2, 1) := by decide +kernel
theorem dX0_areWeatherNumbers_21 : decode cX0_areWeatherNumbers 21 = .ok (.iconst 0, 1) := by decide +kernel
theorem dX0_areWeatherNumbers_22 : decode cX0_areWeatherNumbers 22 = .ok (.bipush 99, 2) := by decide +kernel
theorem dX0_areWeatherNumbers_24 : decode cX0_areWeatherNumbers 24 = .ok (.invokestatic 70, 3) := by decide +kernel
theorem dX0_areWeatherNumbers_27 : decode cX0_areWeatherNumbers 27 = .ok (.ifCond .eq 7, 3) := by decide +kernel
theorem dX0_areWeatherNumbers_30 : decode cX0_areWeatherNumbers 30 = .ok (.iconst 1, 1) := by decide +kernel
theorem dX0_areWeatherNumbers_31 : decode cX0_areWeatherNumbers 31 = .ok (.goto 4, 3) := by decide +kernel
theorem dX0_areWeatherNumbers_34 : decode cX0_areWeatherNumbers 34 = .ok (.iconst 0, 1) := by decide +kernel
theorem dX0_areWeatherNumbers_35 : decode cX0_areWeatherNumbers 35 = .ok (.ireturn, 1) := by decide +kernel
theorem dX0_weekOf_0 : decode cX0_weekOf 0 = .ok (.iload_n 0, 1) := by decide +kernel
theorem dX0_weekOf_1 : decode cX0_weekOf 1 = .ok (.bipush 7, 2) := by decide +kernel
theorem dX0_weekOf_3 : decode cX0_weekOf 3 = .ok (.idiv, 1) := by decide +kernel
theorem dX0_weekOf_4 : decode cX0_weekOf 4 = .ok (.ireturn, 1) := by decide +kernel
set_option maxRecDepth 20000 in
theorem ggX1_init_X0_init : GoodIn wsX1_init wsX0_init := goodIn_r _ [11, 12, 2, 3, 13, 14, 15, 16, 17, 18, 19, 20, 21, 22, 23, 24, 25, 26, 27, 28, 29, 30, 31, 32, 33, 34, 35, 36, 37, 38, 39, 40, 41, 8, 42, 43, 44, 45, 46, 61, 62, 49, 50, 51, 52, 53, 54, 55, 56, 57, 58, 59, 60] (by decide +kernel) (by decide +kernel)
set_option maxRecDepth 20000 in
theorem gX1_init_X0_init : GoodIn wsX1_init (wsX0_init) := ggX1_init_X0_init
theorem dX1_init_0 : decode cX1_init 0 = .ok (.aload_n 0, 1) := by decide +kernel
theorem dX1_init_1 : decode cX1_init 1 = .ok (.invokespecial 3, 3) := by decide +kernel
theorem dX1_init_4 : decode cX1_init 4 = .ok (.aload_n 0, 1) := by decide +kernel
theorem dX1_init_5 : decode cX1_init 5 = .ok (.iconst 4, 1) := by decide +kernel
theorem dX1_init_6 : decode cX1_init 6 = .ok (.anewarray 9, 3) := by decide +kernel
theorem dX1_init_9 : decode cX1_init 9 = .ok (.putfield 11, 3) := by decide +kernel
theorem dX1_init_12 : decode cX1_init 12 = .ok (.aload_n 0, 1) := by decide +kernel
theorem dX1_init_13 : decode cX1_init 13 = .ok (.iconst 0, 1) := by decide +kernel
theorem dX1_init_14 : decode cX1_init 14 = .ok (.putfield 17, 3) := by decide +kernel
theorem dX1_init_17 : decode cX1_init 17 = .ok (.iconst 0, 1) := by decide +kernel
theorem dX1_init_18 : decode cX1_init 18 = .ok (.istore_n 1, 1) := by decide +kernel
theorem dX1_init_19 : decode cX1_init 19 = .ok (.iload_n 1, 1) := by decide +kernel
theorem dX1_init_20 : decode cX1_init 20 = .ok (.aload_n 0, 1) := by decide +kernel
theorem dX1_init_21 : decode cX1_init 21 = .ok (.getfield 11, 3) := by decide +kernel
theorem dX1_init_24 : decode cX1_init 24 = .ok (.arraylength, 1) := by decide +kernel
theorem dX1_init_25 : decode cX1_init 25 = .ok (.if_icmp .ge 22, 3) := by decide +kernel
theorem dX1_init_28 : decode cX1_init 28 = .ok (.aload_n 0, 1) := by decide +kernel
theorem dX1_init_29 : decode cX1_init 29 = .ok (.getfield 11, 3) := by decide +kernel
theorem dX1_init_32 : decode cX1_init 32 = .ok (.iload_n 1, 1) := by decide +kernel
theorem dX1_init_33 : decode cX1_init 33 = .ok (.new 9, 3) := by decide +kernel
theorem dX1_init_36 : decode cX1_init 36 = .ok (.dup, 1) := by decide +kernel
theorem dX1_init_37 : decode cX1_init 37 = .ok (.invokespecial 21, 3) := by decide +kernel
theorem dX1_init_40 : decode cX1_init 40 = .ok (.aastore, 1) := by decide +kernel
theorem dX1_init_41 : decode cX1_init 41 = .ok (.iinc 1 1, 3) := by decide +kernel
theorem dX1_init_44 : decode cX1_init 44 = .ok (.goto (-25), 3) := by decide +kernel
theorem dX1_init_47 : decode cX1_init 47 = .ok (.return_, 1) := by decide +kernel
set_option maxRecDepth 20000 in
theorem ggX1_record_X1_dropOldest : GoodIn wsX1_record wsX1_dropOldest := goodIn_r _ [7, 2, 1, 39, 40] (by decide +kernel) (by decide +kernel)
set_option maxRecDepth 20000 in
theorem gX1_record_X1_dropOldest : GoodIn wsX1_record (wsV RX1 22 RX1 yX1_dropOldest wsX1_dropOldest) := goodIn_app (goodIn_of _ (by decide +kernel)) ggX1_record_X1_dropOldest
set_option maxRecDepth 20000 in
theorem ggX1_record_X0_copyFrom : GoodIn wsX1_record wsX0_copyFrom := goodIn_r _ [12, 13, 14, 15, 16, 17, 18, 19, 20, 21, 22, 23, 24, 25, 26, 27, 28, 29, 30, 31, 32, 33, 34, 35, 36, 37, 38, 41, 42, 43, 44, 45, 46, 47, 48, 49, 50, 51, 52, 53, 54] (by decide +kernel) (by decide +kernel)
set_option maxRecDepth 20000 in
theorem gX1_record_X0_copyFrom : GoodIn wsX1_record (wsV RX1 25 RX0 yX0_copyFrom wsX0_copyFrom) := goodIn_app (goodIn_of _ (by decide +kernel)) ggX1_record_X0_copyFrom
theorem dX1_record_0 : decode cX1_record 0 = .ok (.aload_n 0, 1) := by decide +kernel
theorem dX1_record_1 : decode cX1_record 1 = .ok (.getfield 17, 3) := by decide +kernel
theorem dX1_record_4 : decode cX1_record 4 = .ok (.aload_n 0, 1) := by decide +kernel
theorem dX1_record_5 : decode cX1_record 5 = .ok (.getfield 11, 3) := by decide +kernel
theorem dX1_record_8 : decode cX1_record 8 = .ok (.arraylength, 1) := by decide +kernel
theorem dX1_record_9 : decode cX1_record 9 = .ok (.if_icmp .lt 7, 3) := by decide +kernel
theorem dX1_record_12 : decode cX1_record 12 = .ok (.aload_n 0, 1) := by decide +kernel
theorem dX1_record_13 : decode cX1_record 13 = .ok (.invokevirtual 22, 3) := by decide +kernel
theorem dX1_record_16 : decode cX1_record 16 = .ok (.aload_n 0, 1) := by decide +kernel
theorem dX1_record_17 : decode cX1_record 17 = .ok (.getfield 17, 3) := by decide +kernel
theorem dX1_record_20 : decode cX1_record 20 = .ok (.ifCond .lt 50, 3) := by decide +kernel
theorem dX1_record_23 : decode cX1_record 23 = .ok (.aload_n 0, 1) := by decide +kernel
theorem dX1_record_24 : decode cX1_record 24 = .ok (.getfield 17, 3) := by decide +kernel
theorem dX1_record_27 : decode cX1_record 27 = .ok (.aload_n 0, 1) := by decide +kernel
theorem dX1_record_28 : decode cX1_record 28 = .ok (.getfield 11, 3) := by decide +kernel
theorem dX1_record_31 : decode cX1_record 31 = .ok (.arraylength, 1) := by decide +kernel
theorem dX1_record_32 : decode cX1_record 32 = .ok (.if_icmp .ge 38, 3) := by decide +kernel
theorem dX1_record_35 : decode cX1_record 35 = .ok (.aload_n 0, 1) := by decide +kernel
theorem dX1_record_36 : decode cX1_record 36 = .ok (.getfield 11, 3) := by decide +kernel
theorem dX1_record_39 : decode cX1_record 39 = .ok (.aload_n 0, 1) := by decide +kernel
theorem dX1_record_40 : decode cX1_record 40 = .ok (.getfield 17, 3) := by decide +kernel
theorem dX1_record_43 : decode cX1_record 43 = .ok (.aaload, 1) := by decide +kernel
theorem dX1_record_44 : decode cX1_record 44 = .ok (.ifnull 26, 3) := by decide +kernel
theorem dX1_record_47 : decode cX1_record 47 = .ok (.aload_n 0, 1) := by decide +kernel
theorem dX1_record_48 : decode cX1_record 48 = .ok (.getfield 11, 3) := by decide +kernel
theorem dX1_record_51 : decode cX1_record 51 = .ok (.aload_n 0, 1) := by decide +kernel
theorem dX1_record_52 : decode cX1_record 52 = .ok (.getfield 17, 3) := by decide +kernel
theorem dX1_record_55 : decode cX1_record 55 = .ok (.aaload, 1) := by decide +kernel
theorem dX1_record_56 : decode cX1_record 56 = .ok (.aload_n 1, 1) := by decide +kernel
theorem dX1_record_57 : decode cX1_record 57 = .ok (.invokevirtual 25, 3) := by decide +kernel
theorem dX1_record_60 : decode cX1_record 60 = .ok (.aload_n 0, 1) := by decide +kernel
theorem dX1_record_61 : decode cX1_record 61 = .ok (.dup, 1) := by decide +kernel
theorem dX1_record_62 : decode cX1_record 62 = .ok (.getfield 17, 3) := by decide +kernel
theorem dX1_record_65 : decode cX1_record 65 = .ok (.iconst 1, 1) := by decide +kernel
theorem dX1_record_66 : decode cX1_record 66 = .ok (.iadd, 1) := by decide +kernel
theorem dX1_record_67 : decode cX1_record 67 = .ok (.putfield 17, 3) := by decide +kernel
theorem dX1_record_70 : decode cX1_record 70 = .ok (.return_, 1) := by decide +kernel
set_option maxRecDepth 20000 in
theorem ggX1_restoreTo_X0_copyFrom : GoodIn wsX1_restoreTo wsX0_copyFrom := goodIn_r _ [7, 8, 9, 10, 11, 12, 13, 14, 15, 16, 17, 18, 19, 20, 21, 22, 23, 24, 25, 26, 27, 28, 29, 30, 31, 32, 33, 36, 37, 38, 39, 40, 41, 42, 43, 44, 45, 46, 47, 48, 49] (by decide +kernel) (by decide +kernel)
set_option maxRecDepth 20000 in
theorem gX1_restoreTo_X0_copyFrom : GoodIn wsX1_restoreTo (wsV RX1 25 RX0 yX0_copyFrom wsX0_copyFrom) := goodIn_app (goodIn_of _ (by decide +kernel)) ggX1_restoreTo_X0_copyFrom
theorem dX1_restoreTo_0 : decode cX1_restoreTo 0 = .ok (.aload_n 0, 1) := by decide +kernel
theorem dX1_restoreTo_1 : decode cX1_restoreTo 1 = .ok (.getfield 17, 3) := by decide +kernel
theorem dX1_restoreTo_4 : decode cX1_restoreTo 4 = .ok (.iconst 1, 1) := by decide +kernel
theorem dX1_restoreTo_5 : decode cX1_restoreTo 5 = .ok (.isub, 1) := by decide +kernel
theorem dX1_restoreTo_6 : decode cX1_restoreTo 6 = .ok (.istore_n 2, 1) := by decide +kernel
theorem dX1_restoreTo_7 : decode cX1_restoreTo 7 = .ok (.iload_n 2, 1) := by decide +kernel
theorem dX1_restoreTo_8 : decode cX1_restoreTo 8 = .ok (.ifCond .lt 36, 3) := by decide +kernel
theorem dX1_restoreTo_11 : decode cX1_restoreTo 11 = .ok (.iload_n 2, 1) := by decide +kernel
theorem dX1_restoreTo_12 : decode cX1_restoreTo 12 = .ok (.aload_n 0, 1) := by decide +kernel
theorem dX1_restoreTo_13 : decode cX1_restoreTo 13 = .ok (.getfield 11, 3) := by decide +kernel
theorem dX1_restoreTo_16 : decode cX1_restoreTo 16 = .ok (.arraylength, 1) := by decide +kernel
theorem dX1_restoreTo_17 : decode cX1_restoreTo 17 = .ok (.if_icmp .ge 27, 3) := by decide +kernel
theorem dX1_restoreTo_20 : decode cX1_restoreTo 20 = .ok (.aload_n 0, 1) := by decide +kernel
theorem dX1_restoreTo_21 : decode cX1_restoreTo 21 = .ok (.getfield 11, 3) := by decide +kernel
theorem dX1_restoreTo_24 : decode cX1_restoreTo 24 = .ok (.iload_n 2, 1) := by decide +kernel
theorem dX1_restoreTo_25 : decode cX1_restoreTo 25 = .ok (.aaload, 1) := by decide +kernel
theorem dX1_restoreTo_26 : decode cX1_restoreTo 26 = .ok (.ifnull 18, 3) := by decide +kernel
theorem dX1_restoreTo_29 : decode cX1_restoreTo 29 = .ok (.aload_n 1, 1) := by decide +kernel
