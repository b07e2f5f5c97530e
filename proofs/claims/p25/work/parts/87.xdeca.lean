theorem dL_lot_0 : decode cL_lot 0 = .ok (.iload_n 1, 1) := by decide +kernel
theorem dL_lot_1 : decode cL_lot 1 = .ok (.aload_n 0, 1) := by decide +kernel
theorem dL_lot_2 : decode cL_lot 2 = .ok (.arraylength, 1) := by decide +kernel
theorem dL_lot_3 : decode cL_lot 3 = .ok (.if_icmp .ge 9, 3) := by decide +kernel
theorem dL_lot_6 : decode cL_lot 6 = .ok (.aload_n 0, 1) := by decide +kernel
theorem dL_lot_7 : decode cL_lot 7 = .ok (.iload_n 1, 1) := by decide +kernel
theorem dL_lot_8 : decode cL_lot 8 = .ok (.iaload, 1) := by decide +kernel
theorem dL_lot_9 : decode cL_lot 9 = .ok (.goto 15, 3) := by decide +kernel
theorem dL_lot_12 : decode cL_lot 12 = .ok (.ldc 7, 2) := by decide +kernel
theorem dL_lot_14 : decode cL_lot 14 = .ok (.iload_n 1, 1) := by decide +kernel
theorem dL_lot_15 : decode cL_lot 15 = .ok (.sipush 3121, 3) := by decide +kernel
theorem dL_lot_18 : decode cL_lot 18 = .ok (.iadd, 1) := by decide +kernel
theorem dL_lot_19 : decode cL_lot 19 = .ok (.imul, 1) := by decide +kernel
theorem dL_lot_20 : decode cL_lot 20 = .ok (.sipush 2879, 3) := by decide +kernel
theorem dL_lot_23 : decode cL_lot 23 = .ok (.iadd, 1) := by decide +kernel
theorem dL_lot_24 : decode cL_lot 24 = .ok (.ireturn, 1) := by decide +kernel
theorem dL_low_0 : decode cL_low 0 = .ok (.iload_n 0, 1) := by decide +kernel
theorem dL_low_1 : decode cL_low 1 = .ok (.ldc 8, 2) := by decide +kernel
theorem dL_low_3 : decode cL_low 3 = .ok (.iand, 1) := by decide +kernel
theorem dL_low_4 : decode cL_low 4 = .ok (.iload_n 1, 1) := by decide +kernel
theorem dL_low_5 : decode cL_low 5 = .ok (.irem, 1) := by decide +kernel
theorem dL_low_6 : decode cL_low 6 = .ok (.ireturn, 1) := by decide +kernel
theorem dL_digest_0 : decode cL_digest 0 = .ok (.ldc2_w 9, 3) := by decide +kernel
theorem dL_digest_3 : decode cL_digest 3 = .ok (.lstore_n 1, 1) := by decide +kernel
theorem dL_digest_4 : decode cL_digest 4 = .ok (.iconst 0, 1) := by decide +kernel
theorem dL_digest_5 : decode cL_digest 5 = .ok (.istore_n 3, 1) := by decide +kernel
theorem dL_digest_6 : decode cL_digest 6 = .ok (.iload_n 3, 1) := by decide +kernel
theorem dL_digest_7 : decode cL_digest 7 = .ok (.bipush 23, 2) := by decide +kernel
theorem dL_digest_9 : decode cL_digest 9 = .ok (.if_icmp .ge 38, 3) := by decide +kernel
theorem dL_digest_12 : decode cL_digest 12 = .ok (.ldc2_w 11, 3) := by decide +kernel
theorem dL_digest_15 : decode cL_digest 15 = .ok (.lload_n 1, 1) := by decide +kernel
theorem dL_digest_16 : decode cL_digest 16 = .ok (.lmul, 1) := by decide +kernel
theorem dL_digest_17 : decode cL_digest 17 = .ok (.iload_n 3, 1) := by decide +kernel
theorem dL_digest_18 : decode cL_digest 18 = .ok (.bipush 8, 2) := by decide +kernel
theorem dL_digest_20 : decode cL_digest 20 = .ok (.if_icmp .eq 9, 3) := by decide +kernel
theorem dL_digest_23 : decode cL_digest 23 = .ok (.iload_n 3, 1) := by decide +kernel
theorem dL_digest_24 : decode cL_digest 24 = .ok (.bipush 9, 2) := by decide +kernel
theorem dL_digest_26 : decode cL_digest 26 = .ok (.if_icmp .ne 7, 3) := by decide +kernel
theorem dL_digest_29 : decode cL_digest 29 = .ok (.iconst 0, 1) := by decide +kernel
theorem dL_digest_30 : decode cL_digest 30 = .ok (.goto 8, 3) := by decide +kernel
theorem dL_digest_33 : decode cL_digest 33 = .ok (.aload_n 0, 1) := by decide +kernel
theorem dL_digest_34 : decode cL_digest 34 = .ok (.iload_n 3, 1) := by decide +kernel
theorem dL_digest_35 : decode cL_digest 35 = .ok (.invokevirtual 13, 3) := by decide +kernel
theorem dL_digest_38 : decode cL_digest 38 = .ok (.i2l, 1) := by decide +kernel
theorem dL_digest_39 : decode cL_digest 39 = .ok (.ladd, 1) := by decide +kernel
theorem dL_digest_40 : decode cL_digest 40 = .ok (.lstore_n 1, 1) := by decide +kernel
theorem dL_digest_41 : decode cL_digest 41 = .ok (.iinc 3 1, 3) := by decide +kernel
theorem dL_digest_44 : decode cL_digest 44 = .ok (.goto (-38), 3) := by decide +kernel
theorem dL_digest_47 : decode cL_digest 47 = .ok (.iconst 0, 1) := by decide +kernel
theorem dL_digest_48 : decode cL_digest 48 = .ok (.istore_n 3, 1) := by decide +kernel
theorem dL_digest_49 : decode cL_digest 49 = .ok (.iload_n 3, 1) := by decide +kernel
theorem dL_digest_50 : decode cL_digest 50 = .ok (.aload_n 0, 1) := by decide +kernel
theorem dL_digest_51 : decode cL_digest 51 = .ok (.iconst 0, 1) := by decide +kernel
theorem dL_digest_52 : decode cL_digest 52 = .ok (.invokevirtual 13, 3) := by decide +kernel
theorem dL_digest_55 : decode cL_digest 55 = .ok (.bipush 10, 2) := by decide +kernel
theorem dL_digest_57 : decode cL_digest 57 = .ok (.imul, 1) := by decide +kernel
theorem dL_digest_58 : decode cL_digest 58 = .ok (.if_icmp .ge 29, 3) := by decide +kernel
theorem dL_digest_61 : decode cL_digest 61 = .ok (.ldc2_w 11, 3) := by decide +kernel
theorem dL_digest_64 : decode cL_digest 64 = .ok (.lload_n 1, 1) := by decide +kernel
theorem dL_digest_65 : decode cL_digest 65 = .ok (.lmul, 1) := by decide +kernel
theorem dL_digest_66 : decode cL_digest 66 = .ok (.aload_n 0, 1) := by decide +kernel
theorem dL_digest_67 : decode cL_digest 67 = .ok (.iload_n 3, 1) := by decide +kernel
theorem dL_digest_68 : decode cL_digest 68 = .ok (.bipush 10, 2) := by decide +kernel
theorem dL_digest_70 : decode cL_digest 70 = .ok (.idiv, 1) := by decide +kernel
theorem dL_digest_71 : decode cL_digest 71 = .ok (.iload_n 3, 1) := by decide +kernel
theorem dL_digest_72 : decode cL_digest 72 = .ok (.bipush 10, 2) := by decide +kernel
theorem dL_digest_74 : decode cL_digest 74 = .ok (.irem, 1) := by decide +kernel
theorem dL_digest_75 : decode cL_digest 75 = .ok (.invokevirtual 19, 3) := by decide +kernel
theorem dL_digest_78 : decode cL_digest 78 = .ok (.i2l, 1) := by decide +kernel
theorem dL_digest_79 : decode cL_digest 79 = .ok (.ladd, 1) := by decide +kernel
theorem dL_digest_80 : decode cL_digest 80 = .ok (.lstore_n 1, 1) := by decide +kernel
theorem dL_digest_81 : decode cL_digest 81 = .ok (.iinc 3 1, 3) := by decide +kernel
theorem dL_digest_84 : decode cL_digest 84 = .ok (.goto (-35), 3) := by decide +kernel
theorem dL_digest_87 : decode cL_digest 87 = .ok (.iconst 0, 1) := by decide +kernel
theorem dL_digest_88 : decode cL_digest 88 = .ok (.istore_n 3, 1) := by decide +kernel
theorem dL_digest_89 : decode cL_digest 89 = .ok (.iload_n 3, 1) := by decide +kernel
theorem dL_digest_90 : decode cL_digest 90 = .ok (.bipush 112, 2) := by decide +kernel
theorem dL_digest_92 : decode cL_digest 92 = .ok (.if_icmp .ge 27, 3) := by decide +kernel
theorem dL_digest_95 : decode cL_digest 95 = .ok (.ldc2_w 11, 3) := by decide +kernel
theorem dL_digest_98 : decode cL_digest 98 = .ok (.lload_n 1, 1) := by decide +kernel
theorem dL_digest_99 : decode cL_digest 99 = .ok (.lmul, 1) := by decide +kernel
theorem dL_digest_100 : decode cL_digest 100 = .ok (.aload_n 0, 1) := by decide +kernel
theorem dL_digest_101 : decode cL_digest 101 = .ok (.iload_n 3, 1) := by decide +kernel
theorem dL_digest_102 : decode cL_digest 102 = .ok (.iconst 4, 1) := by decide +kernel
theorem dL_digest_103 : decode cL_digest 103 = .ok (.idiv, 1) := by decide +kernel
theorem dL_digest_104 : decode cL_digest 104 = .ok (.iload_n 3, 1) := by decide +kernel
theorem dL_digest_105 : decode cL_digest 105 = .ok (.iconst 4, 1) := by decide +kernel
theorem dL_digest_106 : decode cL_digest 106 = .ok (.irem, 1) := by decide +kernel
theorem dL_digest_107 : decode cL_digest 107 = .ok (.invokevirtual 23, 3) := by decide +kernel
theorem dL_digest_110 : decode cL_digest 110 = .ok (.i2l, 1) := by decide +kernel
theorem dL_digest_111 : decode cL_digest 111 = .ok (.ladd, 1) := by decide +kernel
theorem dL_digest_112 : decode cL_digest 112 = .ok (.lstore_n 1, 1) := by decide +kernel
theorem dL_digest_113 : decode cL_digest 113 = .ok (.iinc 3 1, 3) := by decide +kernel
theorem dL_digest_116 : decode cL_digest 116 = .ok (.goto (-27), 3) := by decide +kernel
theorem dL_digest_119 : decode cL_digest 119 = .ok (.iconst 0, 1) := by decide +kernel
theorem dL_digest_120 : decode cL_digest 120 = .ok (.istore_n 3, 1) := by decide +kernel
theorem dL_digest_121 : decode cL_digest 121 = .ok (.iload_n 3, 1) := by decide +kernel
theorem dL_digest_122 : decode cL_digest 122 = .ok (.bipush 50, 2) := by decide +kernel
theorem dL_digest_124 : decode cL_digest 124 = .ok (.if_icmp .ge 27, 3) := by decide +kernel
theorem dL_digest_127 : decode cL_digest 127 = .ok (.ldc2_w 11, 3) := by decide +kernel
theorem dL_digest_130 : decode cL_digest 130 = .ok (.lload_n 1, 1) := by decide +kernel
theorem dL_digest_131 : decode cL_digest 131 = .ok (.lmul, 1) := by decide +kernel
theorem dL_digest_132 : decode cL_digest 132 = .ok (.aload_n 0, 1) := by decide +kernel
theorem dL_digest_133 : decode cL_digest 133 = .ok (.iload_n 3, 1) := by decide +kernel
theorem dL_digest_134 : decode cL_digest 134 = .ok (.iconst 5, 1) := by decide +kernel
theorem dL_digest_135 : decode cL_digest 135 = .ok (.idiv, 1) := by decide +kernel
theorem dL_digest_136 : decode cL_digest 136 = .ok (.iload_n 3, 1) := by decide +kernel
theorem dL_digest_137 : decode cL_digest 137 = .ok (.iconst 5, 1) := by decide +kernel
theorem dL_digest_138 : decode cL_digest 138 = .ok (.irem, 1) := by decide +kernel
theorem dL_digest_139 : decode cL_digest 139 = .ok (.invokevirtual 26, 3) := by decide +kernel
theorem dL_digest_142 : decode cL_digest 142 = .ok (.i2l, 1) := by decide +kernel
theorem dL_digest_143 : decode cL_digest 143 = .ok (.ladd, 1) := by decide +kernel
theorem dL_digest_144 : decode cL_digest 144 = .ok (.lstore_n 1, 1) := by decide +kernel
theorem dL_digest_145 : decode cL_digest 145 = .ok (.iinc 3 1, 3) := by decide +kernel
theorem dL_digest_148 : decode cL_digest 148 = .ok (.goto (-27), 3) := by decide +kernel
theorem dL_digest_151 : decode cL_digest 151 = .ok (.iconst 0, 1) := by decide +kernel
theorem dL_digest_152 : decode cL_digest 152 = .ok (.istore_n 3, 1) := by decide +kernel
theorem dL_digest_153 : decode cL_digest 153 = .ok (.iload_n 3, 1) := by decide +kernel
theorem dL_digest_154 : decode cL_digest 154 = .ok (.aload_n 0, 1) := by decide +kernel
theorem dL_digest_155 : decode cL_digest 155 = .ok (.iconst 0, 1) := by decide +kernel
theorem dL_digest_156 : decode cL_digest 156 = .ok (.invokevirtual 13, 3) := by decide +kernel
theorem dL_digest_159 : decode cL_digest 159 = .ok (.if_icmp .ge 35, 3) := by decide +kernel
theorem dL_digest_162 : decode cL_digest 162 = .ok (.ldc2_w 11, 3) := by decide +kernel
theorem dL_digest_165 : decode cL_digest 165 = .ok (.ldc2_w 11, 3) := by decide +kernel
theorem dL_digest_168 : decode cL_digest 168 = .ok (.lload_n 1, 1) := by decide +kernel
theorem dL_digest_169 : decode cL_digest 169 = .ok (.lmul, 1) := by decide +kernel
theorem dL_digest_170 : decode cL_digest 170 = .ok (.aload_n 0, 1) := by decide +kernel
theorem dL_digest_171 : decode cL_digest 171 = .ok (.iload_n 3, 1) := by decide +kernel
theorem dL_digest_172 : decode cL_digest 172 = .ok (.iconst 0, 1) := by decide +kernel
theorem dL_digest_173 : decode cL_digest 173 = .ok (.invokevirtual 29, 3) := by decide +kernel
theorem dL_digest_176 : decode cL_digest 176 = .ok (.i2l, 1) := by decide +kernel
theorem dL_digest_177 : decode cL_digest 177 = .ok (.ladd, 1) := by decide +kernel
theorem dL_digest_178 : decode cL_digest 178 = .ok (.lmul, 1) := by decide +kernel
theorem dL_digest_179 : decode cL_digest 179 = .ok (.aload_n 0, 1) := by decide +kernel
theorem dL_digest_180 : decode cL_digest 180 = .ok (.iload_n 3, 1) := by decide +kernel
theorem dL_digest_181 : decode cL_digest 181 = .ok (.iconst 3, 1) := by decide +kernel
theorem dL_digest_182 : decode cL_digest 182 = .ok (.invokevirtual 29, 3) := by decide +kernel
theorem dL_digest_185 : decode cL_digest 185 = .ok (.i2l, 1) := by decide +kernel
theorem dL_digest_186 : decode cL_digest 186 = .ok (.ladd, 1) := by decide +kernel
theorem dL_digest_187 : decode cL_digest 187 = .ok (.lstore_n 1, 1) := by decide +kernel
theorem dL_digest_188 : decode cL_digest 188 = .ok (.iinc 3 1, 3) := by decide +kernel
theorem dL_digest_191 : decode cL_digest 191 = .ok (.goto (-38), 3) := by decide +kernel
theorem dL_digest_194 : decode cL_digest 194 = .ok (.lload_n 1, 1) := by decide +kernel
theorem dL_digest_195 : decode cL_digest 195 = .ok (.lreturn, 1) := by decide +kernel
theorem dL_holds_0 : decode cL_holds 0 = .ok (.iconst 0, 1) := by decide +kernel
theorem dL_holds_1 : decode cL_holds 1 = .ok (.istore_n 2, 1) := by decide +kernel
theorem dL_holds_2 : decode cL_holds 2 = .ok (.iconst 0, 1) := by decide +kernel
theorem dL_holds_3 : decode cL_holds 3 = .ok (.istore_n 3, 1) := by decide +kernel
theorem dL_holds_4 : decode cL_holds 4 = .ok (.iconst 0, 1) := by decide +kernel
theorem dL_holds_5 : decode cL_holds 5 = .ok (.istore 4, 2) := by decide +kernel
theorem dL_holds_7 : decode cL_holds 7 = .ok (.iload 4, 2) := by decide +kernel
theorem dL_holds_9 : decode cL_holds 9 = .ok (.aload_n 0, 1) := by decide +kernel
theorem dL_holds_10 : decode cL_holds 10 = .ok (.iconst 0, 1) := by decide +kernel
theorem dL_holds_11 : decode cL_holds 11 = .ok (.invokevirtual 13, 3) := by decide +kernel
theorem dL_holds_14 : decode cL_holds 14 = .ok (.if_icmp .ge 211, 3) := by decide +kernel
theorem dL_holds_17 : decode cL_holds 17 = .ok (.iload_n 3, 1) := by decide +kernel
theorem dL_holds_18 : decode cL_holds 18 = .ok (.aload_n 0, 1) := by decide +kernel
theorem dL_holds_19 : decode cL_holds 19 = .ok (.iload 4, 2) := by decide +kernel
theorem dL_holds_21 : decode cL_holds 21 = .ok (.bipush 7, 2) := by decide +kernel
theorem dL_holds_23 : decode cL_holds 23 = .ok (.invokevirtual 19, 3) := by decide +kernel
theorem dL_holds_26 : decode cL_holds 26 = .ok (.iadd, 1) := by decide +kernel
theorem dL_holds_27 : decode cL_holds 27 = .ok (.istore_n 3, 1) := by decide +kernel
theorem dL_holds_28 : decode cL_holds 28 = .ok (.aload_n 0, 1) := by decide +kernel
theorem dL_holds_29 : decode cL_holds 29 = .ok (.iload 4, 2) := by decide +kernel
theorem dL_holds_31 : decode cL_holds 31 = .ok (.bipush 6, 2) := by decide +kernel
theorem dL_holds_33 : decode cL_holds 33 = .ok (.invokevirtual 19, 3) := by decide +kernel
theorem dL_holds_36 : decode cL_holds 36 = .ok (.istore 5, 2) := by decide +kernel
theorem dL_holds_38 : decode cL_holds 38 = .ok (.iload_n 1, 1) := by decide +kernel
theorem dL_holds_39 : decode cL_holds 39 = .ok (.bipush 100, 2) := by decide +kernel
theorem dL_holds_41 : decode cL_holds 41 = .ok (.invokestatic 32, 3) := by decide +kernel
theorem dL_holds_44 : decode cL_holds 44 = .ok (.istore 6, 2) := by decide +kernel
theorem dL_holds_46 : decode cL_holds 46 = .ok (.aload_n 0, 1) := by decide +kernel
theorem dL_holds_47 : decode cL_holds 47 = .ok (.iload 4, 2) := by decide +kernel
theorem dL_holds_49 : decode cL_holds 49 = .ok (.iload 6, 2) := by decide +kernel
theorem dL_holds_51 : decode cL_holds 51 = .ok (.invokevirtual 29, 3) := by decide +kernel
theorem dL_holds_54 : decode cL_holds 54 = .ok (.istore 7, 2) := by decide +kernel
theorem dL_holds_56 : decode cL_holds 56 = .ok (.aload_n 0, 1) := by decide +kernel
theorem dL_holds_57 : decode cL_holds 57 = .ok (.iconst 1, 1) := by decide +kernel
theorem dL_holds_58 : decode cL_holds 58 = .ok (.invokevirtual 13, 3) := by decide +kernel
theorem dL_holds_61 : decode cL_holds 61 = .ok (.iload 6, 2) := by decide +kernel
theorem dL_holds_63 : decode cL_holds 63 = .ok (.iadd, 1) := by decide +kernel
theorem dL_holds_64 : decode cL_holds 64 = .ok (.bipush 28, 2) := by decide +kernel
theorem dL_holds_66 : decode cL_holds 66 = .ok (.irem, 1) := by decide +kernel
theorem dL_holds_67 : decode cL_holds 67 = .ok (.istore 8, 2) := by decide +kernel
theorem dL_holds_69 : decode cL_holds 69 = .ok (.aload_n 0, 1) := by decide +kernel
theorem dL_holds_70 : decode cL_holds 70 = .ok (.iload 8, 2) := by decide +kernel
theorem dL_holds_72 : decode cL_holds 72 = .ok (.iconst 0, 1) := by decide +kernel
theorem dL_holds_73 : decode cL_holds 73 = .ok (.invokevirtual 23, 3) := by decide +kernel
theorem dL_holds_76 : decode cL_holds 76 = .ok (.aload_n 0, 1) := by decide +kernel
theorem dL_holds_77 : decode cL_holds 77 = .ok (.iload 4, 2) := by decide +kernel
theorem dL_holds_79 : decode cL_holds 79 = .ok (.iconst 0, 1) := by decide +kernel
theorem dL_holds_80 : decode cL_holds 80 = .ok (.invokevirtual 19, 3) := by decide +kernel
theorem dL_holds_83 : decode cL_holds 83 = .ok (.if_icmp .gt 41, 3) := by decide +kernel
theorem dL_holds_86 : decode cL_holds 86 = .ok (.aload_n 0, 1) := by decide +kernel
theorem dL_holds_87 : decode cL_holds 87 = .ok (.iload 8, 2) := by decide +kernel
theorem dL_holds_89 : decode cL_holds 89 = .ok (.iconst 1, 1) := by decide +kernel
theorem dL_holds_90 : decode cL_holds 90 = .ok (.invokevirtual 23, 3) := by decide +kernel
theorem dL_holds_93 : decode cL_holds 93 = .ok (.aload_n 0, 1) := by decide +kernel
theorem dL_holds_94 : decode cL_holds 94 = .ok (.iload 4, 2) := by decide +kernel
theorem dL_holds_96 : decode cL_holds 96 = .ok (.iconst 1, 1) := by decide +kernel
theorem dL_holds_97 : decode cL_holds 97 = .ok (.invokevirtual 19, 3) := by decide +kernel
theorem dL_holds_100 : decode cL_holds 100 = .ok (.if_icmp .lt 24, 3) := by decide +kernel
theorem dL_holds_103 : decode cL_holds 103 = .ok (.aload_n 0, 1) := by decide +kernel
theorem dL_holds_104 : decode cL_holds 104 = .ok (.iload 8, 2) := by decide +kernel
theorem dL_holds_106 : decode cL_holds 106 = .ok (.iconst 2, 1) := by decide +kernel
theorem dL_holds_107 : decode cL_holds 107 = .ok (.invokevirtual 23, 3) := by decide +kernel
theorem dL_holds_110 : decode cL_holds 110 = .ok (.aload_n 0, 1) := by decide +kernel
theorem dL_holds_111 : decode cL_holds 111 = .ok (.iload 4, 2) := by decide +kernel
theorem dL_holds_113 : decode cL_holds 113 = .ok (.iconst 2, 1) := by decide +kernel
theorem dL_holds_114 : decode cL_holds 114 = .ok (.invokevirtual 19, 3) := by decide +kernel
theorem dL_holds_117 : decode cL_holds 117 = .ok (.if_icmp .lt 7, 3) := by decide +kernel
theorem dL_holds_120 : decode cL_holds 120 = .ok (.iconst 1, 1) := by decide +kernel
theorem dL_holds_121 : decode cL_holds 121 = .ok (.goto 4, 3) := by decide +kernel
theorem dL_holds_124 : decode cL_holds 124 = .ok (.iconst 0, 1) := by decide +kernel
theorem dL_holds_125 : decode cL_holds 125 = .ok (.istore 9, 2) := by decide +kernel
theorem dL_holds_127 : decode cL_holds 127 = .ok (.iload 5, 2) := by decide +kernel
theorem dL_holds_129 : decode cL_holds 129 = .ok (.iconst 2, 1) := by decide +kernel
theorem dL_holds_130 : decode cL_holds 130 = .ok (.irem, 1) := by decide +kernel
theorem dL_holds_131 : decode cL_holds 131 = .ok (.ifCond .ne 7, 3) := by decide +kernel
theorem dL_holds_134 : decode cL_holds 134 = .ok (.iconst 1, 1) := by decide +kernel
theorem dL_holds_135 : decode cL_holds 135 = .ok (.goto 4, 3) := by decide +kernel
theorem dL_holds_138 : decode cL_holds 138 = .ok (.iconst 0, 1) := by decide +kernel
theorem dL_holds_139 : decode cL_holds 139 = .ok (.istore 10, 2) := by decide +kernel
theorem dL_holds_141 : decode cL_holds 141 = .ok (.iload 7, 2) := by decide +kernel
theorem dL_holds_143 : decode cL_holds 143 = .ok (.iconst 1, 1) := by decide +kernel
theorem dL_holds_144 : decode cL_holds 144 = .ok (.if_icmp .ne 7, 3) := by decide +kernel
theorem dL_holds_147 : decode cL_holds 147 = .ok (.iconst 1, 1) := by decide +kernel
theorem dL_holds_148 : decode cL_holds 148 = .ok (.goto 4, 3) := by decide +kernel
theorem dL_holds_151 : decode cL_holds 151 = .ok (.iconst 0, 1) := by decide +kernel
theorem dL_holds_152 : decode cL_holds 152 = .ok (.iload 10, 2) := by decide +kernel
theorem dL_holds_154 : decode cL_holds 154 = .ok (.if_icmp .eq 63, 3) := by decide +kernel
theorem dL_holds_157 : decode cL_holds 157 = .ok (.iload 7, 2) := by decide +kernel
theorem dL_holds_159 : decode cL_holds 159 = .ok (.iconst 2, 1) := by decide +kernel
theorem dL_holds_160 : decode cL_holds 160 = .ok (.if_icmp .le 15, 3) := by decide +kernel
theorem dL_holds_163 : decode cL_holds 163 = .ok (.iload 7, 2) := by decide +kernel
theorem dL_holds_165 : decode cL_holds 165 = .ok (.bipush 6, 2) := by decide +kernel
theorem dL_holds_167 : decode cL_holds 167 = .ok (.if_icmp .ge 8, 3) := by decide +kernel
