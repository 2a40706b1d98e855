theorem q127_0 : z_m127.2.2.2.2.2.lookup 0 = some (.iload_n 0, 1) := by decide +kernel
theorem q127_1 : z_m127.2.2.2.2.2.lookup 1 = some (.iload_n 1, 1) := by decide +kernel
theorem q127_2 : z_m127.2.2.2.2.2.lookup 2 = some (.imul, 1) := by decide +kernel
theorem q127_3 : z_m127.2.2.2.2.2.lookup 3 = some (.bipush 100, 2) := by decide +kernel
theorem q127_5 : z_m127.2.2.2.2.2.lookup 5 = some (.idiv, 1) := by decide +kernel
theorem q127_6 : z_m127.2.2.2.2.2.lookup 6 = some (.ireturn, 1) := by decide +kernel
theorem q128_0 : z_m128.2.2.2.2.2.lookup 0 = some (.lload_n 0, 1) := by decide +kernel
theorem q128_1 : z_m128.2.2.2.2.2.lookup 1 = some (.lload_n 2, 1) := by decide +kernel
theorem q128_2 : z_m128.2.2.2.2.2.lookup 2 = some (.lcmp, 1) := by decide +kernel
theorem q128_3 : z_m128.2.2.2.2.2.lookup 3 = some (.ifCond .lt 14, 3) := by decide +kernel
theorem q128_6 : z_m128.2.2.2.2.2.lookup 6 = some (.lload_n 0, 1) := by decide +kernel
theorem q128_7 : z_m128.2.2.2.2.2.lookup 7 = some (.lload 4, 2) := by decide +kernel
theorem q128_9 : z_m128.2.2.2.2.2.lookup 9 = some (.lcmp, 1) := by decide +kernel
theorem q128_10 : z_m128.2.2.2.2.2.lookup 10 = some (.ifCond .gt 7, 3) := by decide +kernel
theorem q128_13 : z_m128.2.2.2.2.2.lookup 13 = some (.iconst 1, 1) := by decide +kernel
theorem q128_14 : z_m128.2.2.2.2.2.lookup 14 = some (.goto 4, 3) := by decide +kernel
theorem q128_17 : z_m128.2.2.2.2.2.lookup 17 = some (.iconst 0, 1) := by decide +kernel
theorem q128_18 : z_m128.2.2.2.2.2.lookup 18 = some (.ireturn, 1) := by decide +kernel
theorem q129_0 : z_m129.2.2.2.2.2.lookup 0 = some (.iload_n 1, 1) := by decide +kernel
theorem q129_1 : z_m129.2.2.2.2.2.lookup 1 = some (.i2l, 1) := by decide +kernel
theorem q129_2 : z_m129.2.2.2.2.2.lookup 2 = some (.lconst 1, 1) := by decide +kernel
theorem q129_3 : z_m129.2.2.2.2.2.lookup 3 = some (.ldc2_w 1, 3) := by decide +kernel
theorem q129_6 : z_m129.2.2.2.2.2.lookup 6 = some (.invokestatic 3, 3) := by decide +kernel
theorem q129_9 : z_m129.2.2.2.2.2.lookup 9 = some (.ifCond .ne 6, 3) := by decide +kernel
theorem q129_12 : z_m129.2.2.2.2.2.lookup 12 = some (.bipush (-2), 2) := by decide +kernel
theorem q129_14 : z_m129.2.2.2.2.2.lookup 14 = some (.ireturn, 1) := by decide +kernel
theorem q129_15 : z_m129.2.2.2.2.2.lookup 15 = some (.aload_n 0, 1) := by decide +kernel
theorem q129_16 : z_m129.2.2.2.2.2.lookup 16 = some (.getfield 9, 3) := by decide +kernel
theorem q129_19 : z_m129.2.2.2.2.2.lookup 19 = some (.iload_n 1, 1) := by decide +kernel
theorem q129_20 : z_m129.2.2.2.2.2.lookup 20 = some (.iadd, 1) := by decide +kernel
theorem q129_21 : z_m129.2.2.2.2.2.lookup 21 = some (.sipush 399, 3) := by decide +kernel
theorem q129_24 : z_m129.2.2.2.2.2.lookup 24 = some (.if_icmp .le 6, 3) := by decide +kernel
theorem q129_27 : z_m129.2.2.2.2.2.lookup 27 = some (.bipush (-4), 2) := by decide +kernel
theorem q129_29 : z_m129.2.2.2.2.2.lookup 29 = some (.ireturn, 1) := by decide +kernel
theorem q129_30 : z_m129.2.2.2.2.2.lookup 30 = some (.aload_n 0, 1) := by decide +kernel
theorem q129_31 : z_m129.2.2.2.2.2.lookup 31 = some (.dup, 1) := by decide +kernel
theorem q129_32 : z_m129.2.2.2.2.2.lookup 32 = some (.getfield 9, 3) := by decide +kernel
theorem q129_35 : z_m129.2.2.2.2.2.lookup 35 = some (.iload_n 1, 1) := by decide +kernel
theorem q129_36 : z_m129.2.2.2.2.2.lookup 36 = some (.iadd, 1) := by decide +kernel
theorem q129_37 : z_m129.2.2.2.2.2.lookup 37 = some (.putfield 9, 3) := by decide +kernel
theorem q129_40 : z_m129.2.2.2.2.2.lookup 40 = some (.aload_n 0, 1) := by decide +kernel
theorem q129_41 : z_m129.2.2.2.2.2.lookup 41 = some (.getfield 9, 3) := by decide +kernel
theorem q129_44 : z_m129.2.2.2.2.2.lookup 44 = some (.ireturn, 1) := by decide +kernel
theorem q130_0 : z_m130.2.2.2.2.2.lookup 0 = some (.iload_n 0, 1) := by decide +kernel
theorem q130_1 : z_m130.2.2.2.2.2.lookup 1 = some (.i2l, 1) := by decide +kernel
theorem q130_2 : z_m130.2.2.2.2.2.lookup 2 = some (.lconst 0, 1) := by decide +kernel
theorem q130_3 : z_m130.2.2.2.2.2.lookup 3 = some (.ldc2_w 13, 3) := by decide +kernel
theorem q130_6 : z_m130.2.2.2.2.2.lookup 6 = some (.invokestatic 3, 3) := by decide +kernel
theorem q130_9 : z_m130.2.2.2.2.2.lookup 9 = some (.ireturn, 1) := by decide +kernel
theorem q131_0 : z_m131.2.2.2.2.2.lookup 0 = some (.iload_n 0, 1) := by decide +kernel
theorem q131_1 : z_m131.2.2.2.2.2.lookup 1 = some (.i2l, 1) := by decide +kernel
theorem q131_2 : z_m131.2.2.2.2.2.lookup 2 = some (.lconst 0, 1) := by decide +kernel
theorem q131_3 : z_m131.2.2.2.2.2.lookup 3 = some (.ldc2_w 15, 3) := by decide +kernel
theorem q131_6 : z_m131.2.2.2.2.2.lookup 6 = some (.invokestatic 3, 3) := by decide +kernel
theorem q131_9 : z_m131.2.2.2.2.2.lookup 9 = some (.ireturn, 1) := by decide +kernel
theorem q132_0 : z_m132.2.2.2.2.2.lookup 0 = some (.iload_n 0, 1) := by decide +kernel
theorem q132_1 : z_m132.2.2.2.2.2.lookup 1 = some (.i2l, 1) := by decide +kernel
theorem q132_2 : z_m132.2.2.2.2.2.lookup 2 = some (.lconst 0, 1) := by decide +kernel
theorem q132_3 : z_m132.2.2.2.2.2.lookup 3 = some (.ldc2_w 17, 3) := by decide +kernel
theorem q132_6 : z_m132.2.2.2.2.2.lookup 6 = some (.invokestatic 3, 3) := by decide +kernel
theorem q132_9 : z_m132.2.2.2.2.2.lookup 9 = some (.ireturn, 1) := by decide +kernel
theorem q133_0 : z_m133.2.2.2.2.2.lookup 0 = some (.iload_n 0, 1) := by decide +kernel
theorem q133_1 : z_m133.2.2.2.2.2.lookup 1 = some (.i2l, 1) := by decide +kernel
theorem q133_2 : z_m133.2.2.2.2.2.lookup 2 = some (.lconst 0, 1) := by decide +kernel
theorem q133_3 : z_m133.2.2.2.2.2.lookup 3 = some (.ldc2_w 19, 3) := by decide +kernel
theorem q133_6 : z_m133.2.2.2.2.2.lookup 6 = some (.invokestatic 3, 3) := by decide +kernel
theorem q133_9 : z_m133.2.2.2.2.2.lookup 9 = some (.ireturn, 1) := by decide +kernel
theorem q134_0 : z_m134.2.2.2.2.2.lookup 0 = some (.iload_n 1, 1) := by decide +kernel
theorem q134_1 : z_m134.2.2.2.2.2.lookup 1 = some (.ifCond .lt 15, 3) := by decide +kernel
theorem q134_4 : z_m134.2.2.2.2.2.lookup 4 = some (.iload_n 1, 1) := by decide +kernel
theorem q134_5 : z_m134.2.2.2.2.2.lookup 5 = some (.aload_n 0, 1) := by decide +kernel
theorem q134_6 : z_m134.2.2.2.2.2.lookup 6 = some (.getfield 21, 3) := by decide +kernel
theorem q134_9 : z_m134.2.2.2.2.2.lookup 9 = some (.if_icmp .ge 7, 3) := by decide +kernel
theorem q134_12 : z_m134.2.2.2.2.2.lookup 12 = some (.iconst 1, 1) := by decide +kernel
theorem q134_13 : z_m134.2.2.2.2.2.lookup 13 = some (.goto 4, 3) := by decide +kernel
theorem q134_16 : z_m134.2.2.2.2.2.lookup 16 = some (.iconst 0, 1) := by decide +kernel
theorem q134_17 : z_m134.2.2.2.2.2.lookup 17 = some (.ireturn, 1) := by decide +kernel
theorem q135_0 : z_m135.2.2.2.2.2.lookup 0 = some (.iload_n 1, 1) := by decide +kernel
theorem q135_1 : z_m135.2.2.2.2.2.lookup 1 = some (.i2l, 1) := by decide +kernel
theorem q135_2 : z_m135.2.2.2.2.2.lookup 2 = some (.lconst 0, 1) := by decide +kernel
theorem q135_3 : z_m135.2.2.2.2.2.lookup 3 = some (.ldc2_w 15, 3) := by decide +kernel
theorem q135_6 : z_m135.2.2.2.2.2.lookup 6 = some (.invokestatic 3, 3) := by decide +kernel
theorem q135_9 : z_m135.2.2.2.2.2.lookup 9 = some (.ifCond .eq 56, 3) := by decide +kernel
theorem q135_12 : z_m135.2.2.2.2.2.lookup 12 = some (.iload_n 2, 1) := by decide +kernel
theorem q135_13 : z_m135.2.2.2.2.2.lookup 13 = some (.invokestatic 24, 3) := by decide +kernel
theorem q135_16 : z_m135.2.2.2.2.2.lookup 16 = some (.ifCond .eq 49, 3) := by decide +kernel
theorem q135_19 : z_m135.2.2.2.2.2.lookup 19 = some (.iload_n 3, 1) := by decide +kernel
theorem q135_20 : z_m135.2.2.2.2.2.lookup 20 = some (.invokestatic 28, 3) := by decide +kernel
theorem q135_23 : z_m135.2.2.2.2.2.lookup 23 = some (.ifCond .eq 42, 3) := by decide +kernel
theorem q135_26 : z_m135.2.2.2.2.2.lookup 26 = some (.iload 4, 2) := by decide +kernel
theorem q135_28 : z_m135.2.2.2.2.2.lookup 28 = some (.i2l, 1) := by decide +kernel
theorem q135_29 : z_m135.2.2.2.2.2.lookup 29 = some (.lconst 1, 1) := by decide +kernel
theorem q135_30 : z_m135.2.2.2.2.2.lookup 30 = some (.ldc2_w 31, 3) := by decide +kernel
theorem q135_33 : z_m135.2.2.2.2.2.lookup 33 = some (.invokestatic 3, 3) := by decide +kernel
theorem q135_36 : z_m135.2.2.2.2.2.lookup 36 = some (.ifCond .eq 29, 3) := by decide +kernel
theorem q135_39 : z_m135.2.2.2.2.2.lookup 39 = some (.iload 5, 2) := by decide +kernel
theorem q135_41 : z_m135.2.2.2.2.2.lookup 41 = some (.i2l, 1) := by decide +kernel
theorem q135_42 : z_m135.2.2.2.2.2.lookup 42 = some (.lconst 0, 1) := by decide +kernel
theorem q135_43 : z_m135.2.2.2.2.2.lookup 43 = some (.ldc2_w 33, 3) := by decide +kernel
theorem q135_46 : z_m135.2.2.2.2.2.lookup 46 = some (.invokestatic 3, 3) := by decide +kernel
theorem q135_49 : z_m135.2.2.2.2.2.lookup 49 = some (.ifCond .eq 16, 3) := by decide +kernel
theorem q135_52 : z_m135.2.2.2.2.2.lookup 52 = some (.iload 6, 2) := by decide +kernel
theorem q135_54 : z_m135.2.2.2.2.2.lookup 54 = some (.i2l, 1) := by decide +kernel
theorem q135_55 : z_m135.2.2.2.2.2.lookup 55 = some (.lconst 0, 1) := by decide +kernel
theorem q135_56 : z_m135.2.2.2.2.2.lookup 56 = some (.ldc2_w 31, 3) := by decide +kernel
theorem q135_59 : z_m135.2.2.2.2.2.lookup 59 = some (.invokestatic 3, 3) := by decide +kernel
theorem q135_62 : z_m135.2.2.2.2.2.lookup 62 = some (.ifCond .ne 6, 3) := by decide +kernel
theorem q135_65 : z_m135.2.2.2.2.2.lookup 65 = some (.bipush (-2), 2) := by decide +kernel
theorem q135_67 : z_m135.2.2.2.2.2.lookup 67 = some (.ireturn, 1) := by decide +kernel
theorem q135_68 : z_m135.2.2.2.2.2.lookup 68 = some (.aload_n 0, 1) := by decide +kernel
theorem q135_69 : z_m135.2.2.2.2.2.lookup 69 = some (.getfield 21, 3) := by decide +kernel
theorem q135_72 : z_m135.2.2.2.2.2.lookup 72 = some (.bipush 40, 2) := by decide +kernel
theorem q135_74 : z_m135.2.2.2.2.2.lookup 74 = some (.if_icmp .ne 6, 3) := by decide +kernel
theorem q135_77 : z_m135.2.2.2.2.2.lookup 77 = some (.bipush (-4), 2) := by decide +kernel
theorem q135_79 : z_m135.2.2.2.2.2.lookup 79 = some (.ireturn, 1) := by decide +kernel
theorem q135_80 : z_m135.2.2.2.2.2.lookup 80 = some (.aload_n 0, 1) := by decide +kernel
theorem q135_81 : z_m135.2.2.2.2.2.lookup 81 = some (.getfield 35, 3) := by decide +kernel
theorem q135_84 : z_m135.2.2.2.2.2.lookup 84 = some (.aload_n 0, 1) := by decide +kernel
theorem q135_85 : z_m135.2.2.2.2.2.lookup 85 = some (.getfield 21, 3) := by decide +kernel
theorem q135_88 : z_m135.2.2.2.2.2.lookup 88 = some (.iload_n 1, 1) := by decide +kernel
theorem q135_89 : z_m135.2.2.2.2.2.lookup 89 = some (.iastore, 1) := by decide +kernel
theorem q135_90 : z_m135.2.2.2.2.2.lookup 90 = some (.aload_n 0, 1) := by decide +kernel
theorem q135_91 : z_m135.2.2.2.2.2.lookup 91 = some (.getfield 39, 3) := by decide +kernel
theorem q135_94 : z_m135.2.2.2.2.2.lookup 94 = some (.aload_n 0, 1) := by decide +kernel
theorem q135_95 : z_m135.2.2.2.2.2.lookup 95 = some (.getfield 21, 3) := by decide +kernel
theorem q135_98 : z_m135.2.2.2.2.2.lookup 98 = some (.iload_n 2, 1) := by decide +kernel
theorem q135_99 : z_m135.2.2.2.2.2.lookup 99 = some (.iastore, 1) := by decide +kernel
theorem q135_100 : z_m135.2.2.2.2.2.lookup 100 = some (.aload_n 0, 1) := by decide +kernel
theorem q135_101 : z_m135.2.2.2.2.2.lookup 101 = some (.getfield 42, 3) := by decide +kernel
theorem q135_104 : z_m135.2.2.2.2.2.lookup 104 = some (.aload_n 0, 1) := by decide +kernel
theorem q135_105 : z_m135.2.2.2.2.2.lookup 105 = some (.getfield 21, 3) := by decide +kernel
theorem q135_108 : z_m135.2.2.2.2.2.lookup 108 = some (.iload_n 3, 1) := by decide +kernel
theorem q135_109 : z_m135.2.2.2.2.2.lookup 109 = some (.iastore, 1) := by decide +kernel
theorem q135_110 : z_m135.2.2.2.2.2.lookup 110 = some (.aload_n 0, 1) := by decide +kernel
theorem q135_111 : z_m135.2.2.2.2.2.lookup 111 = some (.getfield 45, 3) := by decide +kernel
theorem q135_114 : z_m135.2.2.2.2.2.lookup 114 = some (.aload_n 0, 1) := by decide +kernel
theorem q135_115 : z_m135.2.2.2.2.2.lookup 115 = some (.getfield 21, 3) := by decide +kernel
theorem q135_118 : z_m135.2.2.2.2.2.lookup 118 = some (.iload 4, 2) := by decide +kernel
theorem q135_120 : z_m135.2.2.2.2.2.lookup 120 = some (.iastore, 1) := by decide +kernel
theorem q135_121 : z_m135.2.2.2.2.2.lookup 121 = some (.aload_n 0, 1) := by decide +kernel
theorem q135_122 : z_m135.2.2.2.2.2.lookup 122 = some (.getfield 48, 3) := by decide +kernel
theorem q135_125 : z_m135.2.2.2.2.2.lookup 125 = some (.aload_n 0, 1) := by decide +kernel
theorem q135_126 : z_m135.2.2.2.2.2.lookup 126 = some (.getfield 21, 3) := by decide +kernel
theorem q135_129 : z_m135.2.2.2.2.2.lookup 129 = some (.iload 5, 2) := by decide +kernel
theorem q135_131 : z_m135.2.2.2.2.2.lookup 131 = some (.iastore, 1) := by decide +kernel
theorem q135_132 : z_m135.2.2.2.2.2.lookup 132 = some (.aload_n 0, 1) := by decide +kernel
theorem q135_133 : z_m135.2.2.2.2.2.lookup 133 = some (.getfield 51, 3) := by decide +kernel
theorem q135_136 : z_m135.2.2.2.2.2.lookup 136 = some (.aload_n 0, 1) := by decide +kernel
theorem q135_137 : z_m135.2.2.2.2.2.lookup 137 = some (.getfield 21, 3) := by decide +kernel
theorem q135_140 : z_m135.2.2.2.2.2.lookup 140 = some (.iload 6, 2) := by decide +kernel
theorem q135_142 : z_m135.2.2.2.2.2.lookup 142 = some (.iastore, 1) := by decide +kernel
theorem q135_143 : z_m135.2.2.2.2.2.lookup 143 = some (.aload_n 0, 1) := by decide +kernel
theorem q135_144 : z_m135.2.2.2.2.2.lookup 144 = some (.getfield 54, 3) := by decide +kernel
theorem q135_147 : z_m135.2.2.2.2.2.lookup 147 = some (.aload_n 0, 1) := by decide +kernel
theorem q135_148 : z_m135.2.2.2.2.2.lookup 148 = some (.getfield 21, 3) := by decide +kernel
theorem q135_151 : z_m135.2.2.2.2.2.lookup 151 = some (.aload_n 0, 1) := by decide +kernel
theorem q135_152 : z_m135.2.2.2.2.2.lookup 152 = some (.getfield 9, 3) := by decide +kernel
theorem q135_155 : z_m135.2.2.2.2.2.lookup 155 = some (.iastore, 1) := by decide +kernel
theorem q135_156 : z_m135.2.2.2.2.2.lookup 156 = some (.aload_n 0, 1) := by decide +kernel
theorem q135_157 : z_m135.2.2.2.2.2.lookup 157 = some (.getfield 57, 3) := by decide +kernel
theorem q135_160 : z_m135.2.2.2.2.2.lookup 160 = some (.aload_n 0, 1) := by decide +kernel
theorem q135_161 : z_m135.2.2.2.2.2.lookup 161 = some (.getfield 21, 3) := by decide +kernel
theorem q135_164 : z_m135.2.2.2.2.2.lookup 164 = some (.iload 4, 2) := by decide +kernel
theorem q135_166 : z_m135.2.2.2.2.2.lookup 166 = some (.iload 4, 2) := by decide +kernel
theorem q135_168 : z_m135.2.2.2.2.2.lookup 168 = some (.iload 5, 2) := by decide +kernel
theorem q135_170 : z_m135.2.2.2.2.2.lookup 170 = some (.imul, 1) := by decide +kernel
theorem q135_171 : z_m135.2.2.2.2.2.lookup 171 = some (.bipush 100, 2) := by decide +kernel
theorem q135_173 : z_m135.2.2.2.2.2.lookup 173 = some (.idiv, 1) := by decide +kernel
theorem q135_174 : z_m135.2.2.2.2.2.lookup 174 = some (.isub, 1) := by decide +kernel
theorem q135_175 : z_m135.2.2.2.2.2.lookup 175 = some (.iastore, 1) := by decide +kernel
theorem q135_176 : z_m135.2.2.2.2.2.lookup 176 = some (.aload_n 0, 1) := by decide +kernel
theorem q135_177 : z_m135.2.2.2.2.2.lookup 177 = some (.getfield 60, 3) := by decide +kernel
theorem q135_180 : z_m135.2.2.2.2.2.lookup 180 = some (.aload_n 0, 1) := by decide +kernel
theorem q135_181 : z_m135.2.2.2.2.2.lookup 181 = some (.getfield 21, 3) := by decide +kernel
theorem q135_184 : z_m135.2.2.2.2.2.lookup 184 = some (.aload_n 0, 1) := by decide +kernel
theorem q135_185 : z_m135.2.2.2.2.2.lookup 185 = some (.getfield 57, 3) := by decide +kernel
theorem q135_188 : z_m135.2.2.2.2.2.lookup 188 = some (.aload_n 0, 1) := by decide +kernel
theorem q135_189 : z_m135.2.2.2.2.2.lookup 189 = some (.getfield 21, 3) := by decide +kernel
theorem q135_192 : z_m135.2.2.2.2.2.lookup 192 = some (.iaload, 1) := by decide +kernel
theorem q135_193 : z_m135.2.2.2.2.2.lookup 193 = some (.iastore, 1) := by decide +kernel
theorem q135_194 : z_m135.2.2.2.2.2.lookup 194 = some (.aload_n 0, 1) := by decide +kernel
theorem q135_195 : z_m135.2.2.2.2.2.lookup 195 = some (.dup, 1) := by decide +kernel
theorem q135_196 : z_m135.2.2.2.2.2.lookup 196 = some (.getfield 21, 3) := by decide +kernel
theorem q135_199 : z_m135.2.2.2.2.2.lookup 199 = some (.iconst 1, 1) := by decide +kernel
theorem q135_200 : z_m135.2.2.2.2.2.lookup 200 = some (.iadd, 1) := by decide +kernel
theorem q135_201 : z_m135.2.2.2.2.2.lookup 201 = some (.putfield 21, 3) := by decide +kernel
theorem q135_204 : z_m135.2.2.2.2.2.lookup 204 = some (.aload_n 0, 1) := by decide +kernel
theorem q135_205 : z_m135.2.2.2.2.2.lookup 205 = some (.getfield 21, 3) := by decide +kernel
theorem q135_208 : z_m135.2.2.2.2.2.lookup 208 = some (.iconst 1, 1) := by decide +kernel
theorem q135_209 : z_m135.2.2.2.2.2.lookup 209 = some (.isub, 1) := by decide +kernel
theorem q135_210 : z_m135.2.2.2.2.2.lookup 210 = some (.ireturn, 1) := by decide +kernel
theorem q136_0 : z_m136.2.2.2.2.2.lookup 0 = some (.iload_n 3, 1) := by decide +kernel
theorem q136_1 : z_m136.2.2.2.2.2.lookup 1 = some (.aload_n 0, 1) := by decide +kernel
theorem q136_2 : z_m136.2.2.2.2.2.lookup 2 = some (.getfield 63, 3) := by decide +kernel
theorem q136_5 : z_m136.2.2.2.2.2.lookup 5 = some (.iconst 4, 1) := by decide +kernel
theorem q136_6 : z_m136.2.2.2.2.2.lookup 6 = some (.aload_n 0, 1) := by decide +kernel
theorem q136_7 : z_m136.2.2.2.2.2.lookup 7 = some (.getfield 35, 3) := by decide +kernel
theorem q136_10 : z_m136.2.2.2.2.2.lookup 10 = some (.iload_n 1, 1) := by decide +kernel
theorem q136_11 : z_m136.2.2.2.2.2.lookup 11 = some (.iaload, 1) := by decide +kernel
theorem q136_12 : z_m136.2.2.2.2.2.lookup 12 = some (.imul, 1) := by decide +kernel
theorem q136_13 : z_m136.2.2.2.2.2.lookup 13 = some (.iload_n 2, 1) := by decide +kernel
theorem q136_14 : z_m136.2.2.2.2.2.lookup 14 = some (.iadd, 1) := by decide +kernel
theorem q136_15 : z_m136.2.2.2.2.2.lookup 15 = some (.iaload, 1) := by decide +kernel
theorem q136_16 : z_m136.2.2.2.2.2.lookup 16 = some (.imul, 1) := by decide +kernel
theorem q136_17 : z_m136.2.2.2.2.2.lookup 17 = some (.bipush 100, 2) := by decide +kernel
theorem q136_19 : z_m136.2.2.2.2.2.lookup 19 = some (.idiv, 1) := by decide +kernel
theorem q136_20 : z_m136.2.2.2.2.2.lookup 20 = some (.ireturn, 1) := by decide +kernel
theorem q137_0 : z_m137.2.2.2.2.2.lookup 0 = some (.aload_n 0, 1) := by decide +kernel
theorem q137_1 : z_m137.2.2.2.2.2.lookup 1 = some (.getfield 57, 3) := by decide +kernel
theorem q137_4 : z_m137.2.2.2.2.2.lookup 4 = some (.iload_n 1, 1) := by decide +kernel
theorem q137_5 : z_m137.2.2.2.2.2.lookup 5 = some (.iaload, 1) := by decide +kernel
theorem q137_6 : z_m137.2.2.2.2.2.lookup 6 = some (.istore_n 2, 1) := by decide +kernel
theorem q137_7 : z_m137.2.2.2.2.2.lookup 7 = some (.iconst 0, 1) := by decide +kernel
theorem q137_8 : z_m137.2.2.2.2.2.lookup 8 = some (.istore_n 3, 1) := by decide +kernel
theorem q137_9 : z_m137.2.2.2.2.2.lookup 9 = some (.iload_n 3, 1) := by decide +kernel
theorem q137_10 : z_m137.2.2.2.2.2.lookup 10 = some (.iconst 4, 1) := by decide +kernel
theorem q137_11 : z_m137.2.2.2.2.2.lookup 11 = some (.if_icmp .ge 24, 3) := by decide +kernel
theorem q137_14 : z_m137.2.2.2.2.2.lookup 14 = some (.iload_n 2, 1) := by decide +kernel
theorem q137_15 : z_m137.2.2.2.2.2.lookup 15 = some (.aload_n 0, 1) := by decide +kernel
theorem q137_16 : z_m137.2.2.2.2.2.lookup 16 = some (.iload_n 1, 1) := by decide +kernel
theorem q137_17 : z_m137.2.2.2.2.2.lookup 17 = some (.iload_n 3, 1) := by decide +kernel
theorem q137_18 : z_m137.2.2.2.2.2.lookup 18 = some (.aload_n 0, 1) := by decide +kernel
theorem q137_19 : z_m137.2.2.2.2.2.lookup 19 = some (.getfield 57, 3) := by decide +kernel
theorem q137_22 : z_m137.2.2.2.2.2.lookup 22 = some (.iload_n 1, 1) := by decide +kernel
theorem q137_23 : z_m137.2.2.2.2.2.lookup 23 = some (.iaload, 1) := by decide +kernel
theorem q137_24 : z_m137.2.2.2.2.2.lookup 24 = some (.invokevirtual 66, 3) := by decide +kernel
theorem q137_27 : z_m137.2.2.2.2.2.lookup 27 = some (.isub, 1) := by decide +kernel
theorem q137_28 : z_m137.2.2.2.2.2.lookup 28 = some (.istore_n 2, 1) := by decide +kernel
theorem q137_29 : z_m137.2.2.2.2.2.lookup 29 = some (.iinc 3 1, 3) := by decide +kernel
theorem q137_32 : z_m137.2.2.2.2.2.lookup 32 = some (.goto (-23), 3) := by decide +kernel
theorem q137_35 : z_m137.2.2.2.2.2.lookup 35 = some (.iload_n 2, 1) := by decide +kernel
theorem q137_36 : z_m137.2.2.2.2.2.lookup 36 = some (.ireturn, 1) := by decide +kernel
theorem q138_0 : z_m138.2.2.2.2.2.lookup 0 = some (.aload_n 0, 1) := by decide +kernel
theorem q138_1 : z_m138.2.2.2.2.2.lookup 1 = some (.getfield 51, 3) := by decide +kernel
theorem q138_4 : z_m138.2.2.2.2.2.lookup 4 = some (.iload_n 1, 1) := by decide +kernel
theorem q138_5 : z_m138.2.2.2.2.2.lookup 5 = some (.iaload, 1) := by decide +kernel
theorem q138_6 : z_m138.2.2.2.2.2.lookup 6 = some (.aload_n 0, 1) := by decide +kernel
theorem q138_7 : z_m138.2.2.2.2.2.lookup 7 = some (.getfield 45, 3) := by decide +kernel
theorem q138_10 : z_m138.2.2.2.2.2.lookup 10 = some (.iload_n 1, 1) := by decide +kernel
theorem q138_11 : z_m138.2.2.2.2.2.lookup 11 = some (.iaload, 1) := by decide +kernel
theorem q138_12 : z_m138.2.2.2.2.2.lookup 12 = some (.isub, 1) := by decide +kernel
theorem q138_13 : z_m138.2.2.2.2.2.lookup 13 = some (.istore_n 2, 1) := by decide +kernel
theorem q138_14 : z_m138.2.2.2.2.2.lookup 14 = some (.iload_n 2, 1) := by decide +kernel
theorem q138_15 : z_m138.2.2.2.2.2.lookup 15 = some (.aload_n 0, 1) := by decide +kernel
theorem q138_16 : z_m138.2.2.2.2.2.lookup 16 = some (.getfield 51, 3) := by decide +kernel
theorem q138_19 : z_m138.2.2.2.2.2.lookup 19 = some (.iload_n 1, 1) := by decide +kernel
theorem q138_20 : z_m138.2.2.2.2.2.lookup 20 = some (.iaload, 1) := by decide +kernel
theorem q138_21 : z_m138.2.2.2.2.2.lookup 21 = some (.aload_n 0, 1) := by decide +kernel
theorem q138_22 : z_m138.2.2.2.2.2.lookup 22 = some (.getfield 70, 3) := by decide +kernel
theorem q138_25 : z_m138.2.2.2.2.2.lookup 25 = some (.aload_n 0, 1) := by decide +kernel
theorem q138_26 : z_m138.2.2.2.2.2.lookup 26 = some (.getfield 35, 3) := by decide +kernel
theorem q138_29 : z_m138.2.2.2.2.2.lookup 29 = some (.iload_n 1, 1) := by decide +kernel
theorem q138_30 : z_m138.2.2.2.2.2.lookup 30 = some (.iaload, 1) := by decide +kernel
theorem q138_31 : z_m138.2.2.2.2.2.lookup 31 = some (.iaload, 1) := by decide +kernel
theorem q138_32 : z_m138.2.2.2.2.2.lookup 32 = some (.imul, 1) := by decide +kernel
theorem q138_33 : z_m138.2.2.2.2.2.lookup 33 = some (.bipush 100, 2) := by decide +kernel
theorem q138_35 : z_m138.2.2.2.2.2.lookup 35 = some (.idiv, 1) := by decide +kernel
theorem q138_36 : z_m138.2.2.2.2.2.lookup 36 = some (.if_icmp .le 7, 3) := by decide +kernel
theorem q138_39 : z_m138.2.2.2.2.2.lookup 39 = some (.iload_n 2, 1) := by decide +kernel
theorem q138_40 : z_m138.2.2.2.2.2.lookup 40 = some (.goto 4, 3) := by decide +kernel
theorem q138_43 : z_m138.2.2.2.2.2.lookup 43 = some (.iconst 0, 1) := by decide +kernel
theorem q138_44 : z_m138.2.2.2.2.2.lookup 44 = some (.ireturn, 1) := by decide +kernel
theorem q139_0 : z_m139.2.2.2.2.2.lookup 0 = some (.aload_n 0, 1) := by decide +kernel
theorem q139_1 : z_m139.2.2.2.2.2.lookup 1 = some (.iload_n 1, 1) := by decide +kernel
theorem q139_2 : z_m139.2.2.2.2.2.lookup 2 = some (.invokevirtual 73, 3) := by decide +kernel
theorem q139_5 : z_m139.2.2.2.2.2.lookup 5 = some (.ifCond .eq 15, 3) := by decide +kernel
theorem q139_8 : z_m139.2.2.2.2.2.lookup 8 = some (.iload_n 2, 1) := by decide +kernel
theorem q139_9 : z_m139.2.2.2.2.2.lookup 9 = some (.i2l, 1) := by decide +kernel
theorem q139_10 : z_m139.2.2.2.2.2.lookup 10 = some (.lconst 0, 1) := by decide +kernel
theorem q139_11 : z_m139.2.2.2.2.2.lookup 11 = some (.ldc2_w 76, 3) := by decide +kernel
theorem q139_14 : z_m139.2.2.2.2.2.lookup 14 = some (.invokestatic 3, 3) := by decide +kernel
theorem q139_17 : z_m139.2.2.2.2.2.lookup 17 = some (.ifCond .ne 6, 3) := by decide +kernel
theorem q139_20 : z_m139.2.2.2.2.2.lookup 20 = some (.bipush (-2), 2) := by decide +kernel
theorem q139_22 : z_m139.2.2.2.2.2.lookup 22 = some (.ireturn, 1) := by decide +kernel
theorem q139_23 : z_m139.2.2.2.2.2.lookup 23 = some (.iload_n 2, 1) := by decide +kernel
theorem q139_24 : z_m139.2.2.2.2.2.lookup 24 = some (.tableswitch 137 0 12 #[68, 75, 82, 89, 96, 137, 137, 137, 137, 103, 109, 115, 122], 68) := by decide +kernel
theorem q139_92 : z_m139.2.2.2.2.2.lookup 92 = some (.aload_n 0, 1) := by decide +kernel
theorem q139_93 : z_m139.2.2.2.2.2.lookup 93 = some (.getfield 35, 3) := by decide +kernel
theorem q139_96 : z_m139.2.2.2.2.2.lookup 96 = some (.iload_n 1, 1) := by decide +kernel
theorem q139_97 : z_m139.2.2.2.2.2.lookup 97 = some (.iaload, 1) := by decide +kernel
theorem q139_98 : z_m139.2.2.2.2.2.lookup 98 = some (.ireturn, 1) := by decide +kernel
theorem q139_99 : z_m139.2.2.2.2.2.lookup 99 = some (.aload_n 0, 1) := by decide +kernel
theorem q139_100 : z_m139.2.2.2.2.2.lookup 100 = some (.getfield 39, 3) := by decide +kernel
theorem q139_103 : z_m139.2.2.2.2.2.lookup 103 = some (.iload_n 1, 1) := by decide +kernel
theorem q139_104 : z_m139.2.2.2.2.2.lookup 104 = some (.iaload, 1) := by decide +kernel
theorem q139_105 : z_m139.2.2.2.2.2.lookup 105 = some (.ireturn, 1) := by decide +kernel
theorem q139_106 : z_m139.2.2.2.2.2.lookup 106 = some (.aload_n 0, 1) := by decide +kernel
theorem q139_107 : z_m139.2.2.2.2.2.lookup 107 = some (.getfield 42, 3) := by decide +kernel
theorem q139_110 : z_m139.2.2.2.2.2.lookup 110 = some (.iload_n 1, 1) := by decide +kernel
theorem q139_111 : z_m139.2.2.2.2.2.lookup 111 = some (.iaload, 1) := by decide +kernel
theorem q139_112 : z_m139.2.2.2.2.2.lookup 112 = some (.ireturn, 1) := by decide +kernel
theorem q139_113 : z_m139.2.2.2.2.2.lookup 113 = some (.aload_n 0, 1) := by decide +kernel
theorem q139_114 : z_m139.2.2.2.2.2.lookup 114 = some (.getfield 45, 3) := by decide +kernel
theorem q139_117 : z_m139.2.2.2.2.2.lookup 117 = some (.iload_n 1, 1) := by decide +kernel
theorem q139_118 : z_m139.2.2.2.2.2.lookup 118 = some (.iaload, 1) := by decide +kernel
theorem q139_119 : z_m139.2.2.2.2.2.lookup 119 = some (.ireturn, 1) := by decide +kernel
theorem q139_120 : z_m139.2.2.2.2.2.lookup 120 = some (.aload_n 0, 1) := by decide +kernel
theorem q139_121 : z_m139.2.2.2.2.2.lookup 121 = some (.getfield 57, 3) := by decide +kernel
theorem q139_124 : z_m139.2.2.2.2.2.lookup 124 = some (.iload_n 1, 1) := by decide +kernel
theorem q139_125 : z_m139.2.2.2.2.2.lookup 125 = some (.iaload, 1) := by decide +kernel
theorem q139_126 : z_m139.2.2.2.2.2.lookup 126 = some (.ireturn, 1) := by decide +kernel
theorem q139_127 : z_m139.2.2.2.2.2.lookup 127 = some (.aload_n 0, 1) := by decide +kernel
theorem q139_128 : z_m139.2.2.2.2.2.lookup 128 = some (.iload_n 1, 1) := by decide +kernel
theorem q139_129 : z_m139.2.2.2.2.2.lookup 129 = some (.invokevirtual 78, 3) := by decide +kernel
theorem q139_132 : z_m139.2.2.2.2.2.lookup 132 = some (.ireturn, 1) := by decide +kernel
theorem q139_133 : z_m139.2.2.2.2.2.lookup 133 = some (.aload_n 0, 1) := by decide +kernel
theorem q139_134 : z_m139.2.2.2.2.2.lookup 134 = some (.iload_n 1, 1) := by decide +kernel
theorem q139_135 : z_m139.2.2.2.2.2.lookup 135 = some (.invokevirtual 82, 3) := by decide +kernel
theorem q139_138 : z_m139.2.2.2.2.2.lookup 138 = some (.ireturn, 1) := by decide +kernel
theorem q139_139 : z_m139.2.2.2.2.2.lookup 139 = some (.aload_n 0, 1) := by decide +kernel
theorem q139_140 : z_m139.2.2.2.2.2.lookup 140 = some (.getfield 54, 3) := by decide +kernel
theorem q139_143 : z_m139.2.2.2.2.2.lookup 143 = some (.iload_n 1, 1) := by decide +kernel
theorem q139_144 : z_m139.2.2.2.2.2.lookup 144 = some (.iaload, 1) := by decide +kernel
theorem q139_145 : z_m139.2.2.2.2.2.lookup 145 = some (.ireturn, 1) := by decide +kernel
theorem q139_146 : z_m139.2.2.2.2.2.lookup 146 = some (.aload_n 0, 1) := by decide +kernel
theorem q139_147 : z_m139.2.2.2.2.2.lookup 147 = some (.getfield 85, 3) := by decide +kernel
theorem q139_150 : z_m139.2.2.2.2.2.lookup 150 = some (.iload_n 1, 1) := by decide +kernel
theorem q139_151 : z_m139.2.2.2.2.2.lookup 151 = some (.baload, 1) := by decide +kernel
theorem q139_152 : z_m139.2.2.2.2.2.lookup 152 = some (.ifCond .eq 7, 3) := by decide +kernel
theorem q139_155 : z_m139.2.2.2.2.2.lookup 155 = some (.iconst 1, 1) := by decide +kernel
theorem q139_156 : z_m139.2.2.2.2.2.lookup 156 = some (.goto 4, 3) := by decide +kernel
theorem q139_159 : z_m139.2.2.2.2.2.lookup 159 = some (.iconst 0, 1) := by decide +kernel
theorem q139_160 : z_m139.2.2.2.2.2.lookup 160 = some (.ireturn, 1) := by decide +kernel
theorem q139_161 : z_m139.2.2.2.2.2.lookup 161 = some (.aload_n 0, 1) := by decide +kernel
theorem q139_162 : z_m139.2.2.2.2.2.lookup 162 = some (.iload_n 1, 1) := by decide +kernel
theorem q139_163 : z_m139.2.2.2.2.2.lookup 163 = some (.iload_n 2, 1) := by decide +kernel
theorem q139_164 : z_m139.2.2.2.2.2.lookup 164 = some (.iconst 5, 1) := by decide +kernel
theorem q139_165 : z_m139.2.2.2.2.2.lookup 165 = some (.isub, 1) := by decide +kernel
theorem q139_166 : z_m139.2.2.2.2.2.lookup 166 = some (.aload_n 0, 1) := by decide +kernel
theorem q139_167 : z_m139.2.2.2.2.2.lookup 167 = some (.getfield 57, 3) := by decide +kernel
theorem q139_170 : z_m139.2.2.2.2.2.lookup 170 = some (.iload_n 1, 1) := by decide +kernel
theorem q139_171 : z_m139.2.2.2.2.2.lookup 171 = some (.iaload, 1) := by decide +kernel
theorem q139_172 : z_m139.2.2.2.2.2.lookup 172 = some (.invokevirtual 66, 3) := by decide +kernel
theorem q139_175 : z_m139.2.2.2.2.2.lookup 175 = some (.ireturn, 1) := by decide +kernel
theorem q140_0 : z_m140.2.2.2.2.2.lookup 0 = some (.iload_n 1, 1) := by decide +kernel
theorem q140_1 : z_m140.2.2.2.2.2.lookup 1 = some (.invokestatic 28, 3) := by decide +kernel
theorem q140_4 : z_m140.2.2.2.2.2.lookup 4 = some (.ifCond .eq 15, 3) := by decide +kernel
theorem q140_7 : z_m140.2.2.2.2.2.lookup 7 = some (.iload_n 2, 1) := by decide +kernel
theorem q140_8 : z_m140.2.2.2.2.2.lookup 8 = some (.i2l, 1) := by decide +kernel
theorem q140_9 : z_m140.2.2.2.2.2.lookup 9 = some (.lconst 0, 1) := by decide +kernel
theorem q140_10 : z_m140.2.2.2.2.2.lookup 10 = some (.ldc2_w 89, 3) := by decide +kernel
theorem q140_13 : z_m140.2.2.2.2.2.lookup 13 = some (.invokestatic 3, 3) := by decide +kernel
theorem q140_16 : z_m140.2.2.2.2.2.lookup 16 = some (.ifCond .ne 6, 3) := by decide +kernel
theorem q140_19 : z_m140.2.2.2.2.2.lookup 19 = some (.bipush (-2), 2) := by decide +kernel
theorem q140_21 : z_m140.2.2.2.2.2.lookup 21 = some (.ireturn, 1) := by decide +kernel
theorem q140_22 : z_m140.2.2.2.2.2.lookup 22 = some (.iload_n 2, 1) := by decide +kernel
theorem q140_23 : z_m140.2.2.2.2.2.lookup 23 = some (.istore_n 3, 1) := by decide +kernel
theorem q140_24 : z_m140.2.2.2.2.2.lookup 24 = some (.iconst 0, 1) := by decide +kernel
theorem q140_25 : z_m140.2.2.2.2.2.lookup 25 = some (.istore 4, 2) := by decide +kernel
theorem q140_27 : z_m140.2.2.2.2.2.lookup 27 = some (.iconst 0, 1) := by decide +kernel
theorem q140_28 : z_m140.2.2.2.2.2.lookup 28 = some (.istore 5, 2) := by decide +kernel
theorem q140_30 : z_m140.2.2.2.2.2.lookup 30 = some (.iload 5, 2) := by decide +kernel
theorem q140_32 : z_m140.2.2.2.2.2.lookup 32 = some (.aload_n 0, 1) := by decide +kernel
theorem q140_33 : z_m140.2.2.2.2.2.lookup 33 = some (.getfield 21, 3) := by decide +kernel
theorem q140_36 : z_m140.2.2.2.2.2.lookup 36 = some (.if_icmp .ge 123, 3) := by decide +kernel
theorem q140_39 : z_m140.2.2.2.2.2.lookup 39 = some (.aload_n 0, 1) := by decide +kernel
theorem q140_40 : z_m140.2.2.2.2.2.lookup 40 = some (.getfield 42, 3) := by decide +kernel
theorem q140_43 : z_m140.2.2.2.2.2.lookup 43 = some (.iload 5, 2) := by decide +kernel
theorem q140_45 : z_m140.2.2.2.2.2.lookup 45 = some (.iaload, 1) := by decide +kernel
theorem q140_46 : z_m140.2.2.2.2.2.lookup 46 = some (.iload_n 1, 1) := by decide +kernel
theorem q140_47 : z_m140.2.2.2.2.2.lookup 47 = some (.if_icmp .ne 106, 3) := by decide +kernel
theorem q140_50 : z_m140.2.2.2.2.2.lookup 50 = some (.aload_n 0, 1) := by decide +kernel
theorem q140_51 : z_m140.2.2.2.2.2.lookup 51 = some (.getfield 85, 3) := by decide +kernel
theorem q140_54 : z_m140.2.2.2.2.2.lookup 54 = some (.iload 5, 2) := by decide +kernel
theorem q140_56 : z_m140.2.2.2.2.2.lookup 56 = some (.baload, 1) := by decide +kernel
theorem q140_57 : z_m140.2.2.2.2.2.lookup 57 = some (.ifCond .eq 6, 3) := by decide +kernel
theorem q140_60 : z_m140.2.2.2.2.2.lookup 60 = some (.goto 93, 3) := by decide +kernel
theorem q140_63 : z_m140.2.2.2.2.2.lookup 63 = some (.aload_n 0, 1) := by decide +kernel
theorem q140_64 : z_m140.2.2.2.2.2.lookup 64 = some (.getfield 57, 3) := by decide +kernel
theorem q140_67 : z_m140.2.2.2.2.2.lookup 67 = some (.iload 5, 2) := by decide +kernel
theorem q140_69 : z_m140.2.2.2.2.2.lookup 69 = some (.iaload, 1) := by decide +kernel
theorem q140_70 : z_m140.2.2.2.2.2.lookup 70 = some (.iload_n 3, 1) := by decide +kernel
theorem q140_71 : z_m140.2.2.2.2.2.lookup 71 = some (.if_icmp .le 6, 3) := by decide +kernel
theorem q140_74 : z_m140.2.2.2.2.2.lookup 74 = some (.iload 4, 2) := by decide +kernel
theorem q140_76 : z_m140.2.2.2.2.2.lookup 76 = some (.ireturn, 1) := by decide +kernel
theorem q140_77 : z_m140.2.2.2.2.2.lookup 77 = some (.iload_n 3, 1) := by decide +kernel
theorem q140_78 : z_m140.2.2.2.2.2.lookup 78 = some (.aload_n 0, 1) := by decide +kernel
theorem q140_79 : z_m140.2.2.2.2.2.lookup 79 = some (.getfield 57, 3) := by decide +kernel
theorem q140_82 : z_m140.2.2.2.2.2.lookup 82 = some (.iload 5, 2) := by decide +kernel
theorem q140_84 : z_m140.2.2.2.2.2.lookup 84 = some (.iaload, 1) := by decide +kernel
theorem q140_85 : z_m140.2.2.2.2.2.lookup 85 = some (.isub, 1) := by decide +kernel
theorem q140_86 : z_m140.2.2.2.2.2.lookup 86 = some (.istore_n 3, 1) := by decide +kernel
theorem q140_87 : z_m140.2.2.2.2.2.lookup 87 = some (.aload_n 0, 1) := by decide +kernel
theorem q140_88 : z_m140.2.2.2.2.2.lookup 88 = some (.getfield 85, 3) := by decide +kernel
theorem q140_91 : z_m140.2.2.2.2.2.lookup 91 = some (.iload 5, 2) := by decide +kernel
theorem q140_93 : z_m140.2.2.2.2.2.lookup 93 = some (.iconst 1, 1) := by decide +kernel
theorem q140_94 : z_m140.2.2.2.2.2.lookup 94 = some (.bastore, 1) := by decide +kernel
theorem q140_95 : z_m140.2.2.2.2.2.lookup 95 = some (.iconst 0, 1) := by decide +kernel
theorem q140_96 : z_m140.2.2.2.2.2.lookup 96 = some (.istore 6, 2) := by decide +kernel
theorem q140_98 : z_m140.2.2.2.2.2.lookup 98 = some (.iload 6, 2) := by decide +kernel
theorem q140_100 : z_m140.2.2.2.2.2.lookup 100 = some (.iconst 4, 1) := by decide +kernel
theorem q140_101 : z_m140.2.2.2.2.2.lookup 101 = some (.if_icmp .ge 34, 3) := by decide +kernel
theorem q140_104 : z_m140.2.2.2.2.2.lookup 104 = some (.aload_n 0, 1) := by decide +kernel
theorem q140_105 : z_m140.2.2.2.2.2.lookup 105 = some (.getfield 91, 3) := by decide +kernel
theorem q140_108 : z_m140.2.2.2.2.2.lookup 108 = some (.iload 6, 2) := by decide +kernel
theorem q140_110 : z_m140.2.2.2.2.2.lookup 110 = some (.dup2, 1) := by decide +kernel
theorem q140_111 : z_m140.2.2.2.2.2.lookup 111 = some (.iaload, 1) := by decide +kernel
theorem q140_112 : z_m140.2.2.2.2.2.lookup 112 = some (.aload_n 0, 1) := by decide +kernel
theorem q140_113 : z_m140.2.2.2.2.2.lookup 113 = some (.iload 5, 2) := by decide +kernel
theorem q140_115 : z_m140.2.2.2.2.2.lookup 115 = some (.iload 6, 2) := by decide +kernel
theorem q140_117 : z_m140.2.2.2.2.2.lookup 117 = some (.aload_n 0, 1) := by decide +kernel
theorem q140_118 : z_m140.2.2.2.2.2.lookup 118 = some (.getfield 57, 3) := by decide +kernel
theorem q140_121 : z_m140.2.2.2.2.2.lookup 121 = some (.iload 5, 2) := by decide +kernel
theorem q140_123 : z_m140.2.2.2.2.2.lookup 123 = some (.iaload, 1) := by decide +kernel
theorem q140_124 : z_m140.2.2.2.2.2.lookup 124 = some (.invokevirtual 66, 3) := by decide +kernel
theorem q140_127 : z_m140.2.2.2.2.2.lookup 127 = some (.iadd, 1) := by decide +kernel
theorem q140_128 : z_m140.2.2.2.2.2.lookup 128 = some (.iastore, 1) := by decide +kernel
theorem q140_129 : z_m140.2.2.2.2.2.lookup 129 = some (.iinc 6 1, 3) := by decide +kernel
theorem q140_132 : z_m140.2.2.2.2.2.lookup 132 = some (.goto (-34), 3) := by decide +kernel
theorem q140_135 : z_m140.2.2.2.2.2.lookup 135 = some (.aload_n 0, 1) := by decide +kernel
theorem q140_136 : z_m140.2.2.2.2.2.lookup 136 = some (.getfield 91, 3) := by decide +kernel
theorem q140_139 : z_m140.2.2.2.2.2.lookup 139 = some (.iconst 4, 1) := by decide +kernel
theorem q140_140 : z_m140.2.2.2.2.2.lookup 140 = some (.dup2, 1) := by decide +kernel
theorem q140_141 : z_m140.2.2.2.2.2.lookup 141 = some (.iaload, 1) := by decide +kernel
theorem q140_142 : z_m140.2.2.2.2.2.lookup 142 = some (.aload_n 0, 1) := by decide +kernel
theorem q140_143 : z_m140.2.2.2.2.2.lookup 143 = some (.iload 5, 2) := by decide +kernel
theorem q140_145 : z_m140.2.2.2.2.2.lookup 145 = some (.invokevirtual 78, 3) := by decide +kernel
theorem q140_148 : z_m140.2.2.2.2.2.lookup 148 = some (.iadd, 1) := by decide +kernel
theorem q140_149 : z_m140.2.2.2.2.2.lookup 149 = some (.iastore, 1) := by decide +kernel
theorem q140_150 : z_m140.2.2.2.2.2.lookup 150 = some (.iinc 4 1, 3) := by decide +kernel
theorem q140_153 : z_m140.2.2.2.2.2.lookup 153 = some (.iinc 5 1, 3) := by decide +kernel
theorem q140_156 : z_m140.2.2.2.2.2.lookup 156 = some (.goto (-126), 3) := by decide +kernel
theorem q140_159 : z_m140.2.2.2.2.2.lookup 159 = some (.iload 4, 2) := by decide +kernel
theorem q140_161 : z_m140.2.2.2.2.2.lookup 161 = some (.ireturn, 1) := by decide +kernel
theorem q141_0 : z_m141.2.2.2.2.2.lookup 0 = some (.iload_n 1, 1) := by decide +kernel
theorem q141_1 : z_m141.2.2.2.2.2.lookup 1 = some (.invokestatic 28, 3) := by decide +kernel
theorem q141_4 : z_m141.2.2.2.2.2.lookup 4 = some (.ifCond .eq 15, 3) := by decide +kernel
theorem q141_7 : z_m141.2.2.2.2.2.lookup 7 = some (.iload_n 2, 1) := by decide +kernel
theorem q141_8 : z_m141.2.2.2.2.2.lookup 8 = some (.i2l, 1) := by decide +kernel
theorem q141_9 : z_m141.2.2.2.2.2.lookup 9 = some (.lconst 0, 1) := by decide +kernel
theorem q141_10 : z_m141.2.2.2.2.2.lookup 10 = some (.ldc2_w 94, 3) := by decide +kernel
theorem q141_13 : z_m141.2.2.2.2.2.lookup 13 = some (.invokestatic 3, 3) := by decide +kernel
theorem q141_16 : z_m141.2.2.2.2.2.lookup 16 = some (.ifCond .ne 6, 3) := by decide +kernel
theorem q141_19 : z_m141.2.2.2.2.2.lookup 19 = some (.bipush (-2), 2) := by decide +kernel
theorem q141_21 : z_m141.2.2.2.2.2.lookup 21 = some (.ireturn, 1) := by decide +kernel
theorem q141_22 : z_m141.2.2.2.2.2.lookup 22 = some (.iconst 0, 1) := by decide +kernel
theorem q141_23 : z_m141.2.2.2.2.2.lookup 23 = some (.istore_n 3, 1) := by decide +kernel
theorem q141_24 : z_m141.2.2.2.2.2.lookup 24 = some (.iconst 0, 1) := by decide +kernel
theorem q141_25 : z_m141.2.2.2.2.2.lookup 25 = some (.istore 4, 2) := by decide +kernel
theorem q141_27 : z_m141.2.2.2.2.2.lookup 27 = some (.iload 4, 2) := by decide +kernel
theorem q141_29 : z_m141.2.2.2.2.2.lookup 29 = some (.aload_n 0, 1) := by decide +kernel
theorem q141_30 : z_m141.2.2.2.2.2.lookup 30 = some (.getfield 21, 3) := by decide +kernel
theorem q141_33 : z_m141.2.2.2.2.2.lookup 33 = some (.if_icmp .ge 61, 3) := by decide +kernel
theorem q141_36 : z_m141.2.2.2.2.2.lookup 36 = some (.aload_n 0, 1) := by decide +kernel
theorem q141_37 : z_m141.2.2.2.2.2.lookup 37 = some (.getfield 42, 3) := by decide +kernel
theorem q141_40 : z_m141.2.2.2.2.2.lookup 40 = some (.iload 4, 2) := by decide +kernel
theorem q141_42 : z_m141.2.2.2.2.2.lookup 42 = some (.iaload, 1) := by decide +kernel
theorem q141_43 : z_m141.2.2.2.2.2.lookup 43 = some (.iload_n 1, 1) := by decide +kernel
theorem q141_44 : z_m141.2.2.2.2.2.lookup 44 = some (.if_icmp .ne 44, 3) := by decide +kernel
theorem q141_47 : z_m141.2.2.2.2.2.lookup 47 = some (.aload_n 0, 1) := by decide +kernel
theorem q141_48 : z_m141.2.2.2.2.2.lookup 48 = some (.getfield 85, 3) := by decide +kernel
theorem q141_51 : z_m141.2.2.2.2.2.lookup 51 = some (.iload 4, 2) := by decide +kernel
theorem q141_53 : z_m141.2.2.2.2.2.lookup 53 = some (.baload, 1) := by decide +kernel
theorem q141_54 : z_m141.2.2.2.2.2.lookup 54 = some (.ifCond .ne 34, 3) := by decide +kernel
theorem q141_57 : z_m141.2.2.2.2.2.lookup 57 = some (.aload_n 0, 1) := by decide +kernel
theorem q141_58 : z_m141.2.2.2.2.2.lookup 58 = some (.getfield 57, 3) := by decide +kernel
theorem q141_61 : z_m141.2.2.2.2.2.lookup 61 = some (.iload 4, 2) := by decide +kernel
theorem q141_63 : z_m141.2.2.2.2.2.lookup 63 = some (.iaload, 1) := by decide +kernel
theorem q141_64 : z_m141.2.2.2.2.2.lookup 64 = some (.iload_n 2, 1) := by decide +kernel
theorem q141_65 : z_m141.2.2.2.2.2.lookup 65 = some (.imul, 1) := by decide +kernel
theorem q141_66 : z_m141.2.2.2.2.2.lookup 66 = some (.bipush 100, 2) := by decide +kernel
theorem q141_68 : z_m141.2.2.2.2.2.lookup 68 = some (.idiv, 1) := by decide +kernel
theorem q141_69 : z_m141.2.2.2.2.2.lookup 69 = some (.istore 5, 2) := by decide +kernel
theorem q141_71 : z_m141.2.2.2.2.2.lookup 71 = some (.aload_n 0, 1) := by decide +kernel
theorem q141_72 : z_m141.2.2.2.2.2.lookup 72 = some (.getfield 57, 3) := by decide +kernel
theorem q141_75 : z_m141.2.2.2.2.2.lookup 75 = some (.iload 4, 2) := by decide +kernel
theorem q141_77 : z_m141.2.2.2.2.2.lookup 77 = some (.dup2, 1) := by decide +kernel
theorem q141_78 : z_m141.2.2.2.2.2.lookup 78 = some (.iaload, 1) := by decide +kernel
theorem q141_79 : z_m141.2.2.2.2.2.lookup 79 = some (.iload 5, 2) := by decide +kernel
theorem q141_81 : z_m141.2.2.2.2.2.lookup 81 = some (.isub, 1) := by decide +kernel
theorem q141_82 : z_m141.2.2.2.2.2.lookup 82 = some (.iastore, 1) := by decide +kernel
theorem q141_83 : z_m141.2.2.2.2.2.lookup 83 = some (.iload_n 3, 1) := by decide +kernel
theorem q141_84 : z_m141.2.2.2.2.2.lookup 84 = some (.iload 5, 2) := by decide +kernel
theorem q141_86 : z_m141.2.2.2.2.2.lookup 86 = some (.iadd, 1) := by decide +kernel
theorem q141_87 : z_m141.2.2.2.2.2.lookup 87 = some (.istore_n 3, 1) := by decide +kernel
theorem q141_88 : z_m141.2.2.2.2.2.lookup 88 = some (.iinc 4 1, 3) := by decide +kernel
theorem q141_91 : z_m141.2.2.2.2.2.lookup 91 = some (.goto (-64), 3) := by decide +kernel
theorem q141_94 : z_m141.2.2.2.2.2.lookup 94 = some (.aload_n 0, 1) := by decide +kernel
theorem q141_95 : z_m141.2.2.2.2.2.lookup 95 = some (.getfield 91, 3) := by decide +kernel
theorem q141_98 : z_m141.2.2.2.2.2.lookup 98 = some (.iconst 5, 1) := by decide +kernel
theorem q141_99 : z_m141.2.2.2.2.2.lookup 99 = some (.dup2, 1) := by decide +kernel
theorem q141_100 : z_m141.2.2.2.2.2.lookup 100 = some (.iaload, 1) := by decide +kernel
theorem q141_101 : z_m141.2.2.2.2.2.lookup 101 = some (.iload_n 3, 1) := by decide +kernel
theorem q141_102 : z_m141.2.2.2.2.2.lookup 102 = some (.iadd, 1) := by decide +kernel
theorem q141_103 : z_m141.2.2.2.2.2.lookup 103 = some (.iastore, 1) := by decide +kernel
theorem q141_104 : z_m141.2.2.2.2.2.lookup 104 = some (.iload_n 3, 1) := by decide +kernel
theorem q141_105 : z_m141.2.2.2.2.2.lookup 105 = some (.ireturn, 1) := by decide +kernel
theorem q142_0 : z_m142.2.2.2.2.2.lookup 0 = some (.iload_n 1, 1) := by decide +kernel
theorem q142_1 : z_m142.2.2.2.2.2.lookup 1 = some (.invokestatic 28, 3) := by decide +kernel
theorem q142_4 : z_m142.2.2.2.2.2.lookup 4 = some (.ifCond .ne 6, 3) := by decide +kernel
theorem q142_7 : z_m142.2.2.2.2.2.lookup 7 = some (.bipush (-2), 2) := by decide +kernel
theorem q142_9 : z_m142.2.2.2.2.2.lookup 9 = some (.ireturn, 1) := by decide +kernel
theorem q142_10 : z_m142.2.2.2.2.2.lookup 10 = some (.iconst 0, 1) := by decide +kernel
theorem q142_11 : z_m142.2.2.2.2.2.lookup 11 = some (.istore_n 2, 1) := by decide +kernel
theorem q142_12 : z_m142.2.2.2.2.2.lookup 12 = some (.iconst 0, 1) := by decide +kernel
theorem q142_13 : z_m142.2.2.2.2.2.lookup 13 = some (.istore_n 3, 1) := by decide +kernel
theorem q142_14 : z_m142.2.2.2.2.2.lookup 14 = some (.iload_n 3, 1) := by decide +kernel
theorem q142_15 : z_m142.2.2.2.2.2.lookup 15 = some (.aload_n 0, 1) := by decide +kernel
theorem q142_16 : z_m142.2.2.2.2.2.lookup 16 = some (.getfield 21, 3) := by decide +kernel
theorem q142_19 : z_m142.2.2.2.2.2.lookup 19 = some (.if_icmp .ge 41, 3) := by decide +kernel
theorem q142_22 : z_m142.2.2.2.2.2.lookup 22 = some (.iload_n 2, 1) := by decide +kernel
theorem q142_23 : z_m142.2.2.2.2.2.lookup 23 = some (.aload_n 0, 1) := by decide +kernel
theorem q142_24 : z_m142.2.2.2.2.2.lookup 24 = some (.getfield 42, 3) := by decide +kernel
theorem q142_27 : z_m142.2.2.2.2.2.lookup 27 = some (.iload_n 3, 1) := by decide +kernel
theorem q142_28 : z_m142.2.2.2.2.2.lookup 28 = some (.iaload, 1) := by decide +kernel
theorem q142_29 : z_m142.2.2.2.2.2.lookup 29 = some (.iload_n 1, 1) := by decide +kernel
theorem q142_30 : z_m142.2.2.2.2.2.lookup 30 = some (.if_icmp .ne 21, 3) := by decide +kernel
theorem q142_33 : z_m142.2.2.2.2.2.lookup 33 = some (.aload_n 0, 1) := by decide +kernel
theorem q142_34 : z_m142.2.2.2.2.2.lookup 34 = some (.getfield 85, 3) := by decide +kernel
theorem q142_37 : z_m142.2.2.2.2.2.lookup 37 = some (.iload_n 3, 1) := by decide +kernel
theorem q142_38 : z_m142.2.2.2.2.2.lookup 38 = some (.baload, 1) := by decide +kernel
theorem q142_39 : z_m142.2.2.2.2.2.lookup 39 = some (.ifCond .ne 12, 3) := by decide +kernel
theorem q142_42 : z_m142.2.2.2.2.2.lookup 42 = some (.aload_n 0, 1) := by decide +kernel
theorem q142_43 : z_m142.2.2.2.2.2.lookup 43 = some (.getfield 57, 3) := by decide +kernel
theorem q142_46 : z_m142.2.2.2.2.2.lookup 46 = some (.iload_n 3, 1) := by decide +kernel
theorem q142_47 : z_m142.2.2.2.2.2.lookup 47 = some (.iaload, 1) := by decide +kernel
theorem q142_48 : z_m142.2.2.2.2.2.lookup 48 = some (.goto 4, 3) := by decide +kernel
theorem q142_51 : z_m142.2.2.2.2.2.lookup 51 = some (.iconst 0, 1) := by decide +kernel
theorem q142_52 : z_m142.2.2.2.2.2.lookup 52 = some (.iadd, 1) := by decide +kernel
theorem q142_53 : z_m142.2.2.2.2.2.lookup 53 = some (.istore_n 2, 1) := by decide +kernel
theorem q142_54 : z_m142.2.2.2.2.2.lookup 54 = some (.iinc 3 1, 3) := by decide +kernel
theorem q142_57 : z_m142.2.2.2.2.2.lookup 57 = some (.goto (-43), 3) := by decide +kernel
theorem q142_60 : z_m142.2.2.2.2.2.lookup 60 = some (.iload_n 2, 1) := by decide +kernel
theorem q142_61 : z_m142.2.2.2.2.2.lookup 61 = some (.ireturn, 1) := by decide +kernel
theorem q143_0 : z_m143.2.2.2.2.2.lookup 0 = some (.iload_n 1, 1) := by decide +kernel
theorem q143_1 : z_m143.2.2.2.2.2.lookup 1 = some (.i2l, 1) := by decide +kernel
theorem q143_2 : z_m143.2.2.2.2.2.lookup 2 = some (.lconst 0, 1) := by decide +kernel
theorem q143_3 : z_m143.2.2.2.2.2.lookup 3 = some (.ldc2_w 15, 3) := by decide +kernel
theorem q143_6 : z_m143.2.2.2.2.2.lookup 6 = some (.invokestatic 3, 3) := by decide +kernel
theorem q143_9 : z_m143.2.2.2.2.2.lookup 9 = some (.ifCond .eq 12, 3) := by decide +kernel
theorem q143_12 : z_m143.2.2.2.2.2.lookup 12 = some (.aload_n 0, 1) := by decide +kernel
theorem q143_13 : z_m143.2.2.2.2.2.lookup 13 = some (.getfield 91, 3) := by decide +kernel
theorem q143_16 : z_m143.2.2.2.2.2.lookup 16 = some (.iload_n 1, 1) := by decide +kernel
theorem q143_17 : z_m143.2.2.2.2.2.lookup 17 = some (.iaload, 1) := by decide +kernel
theorem q143_18 : z_m143.2.2.2.2.2.lookup 18 = some (.goto 5, 3) := by decide +kernel
theorem q143_21 : z_m143.2.2.2.2.2.lookup 21 = some (.bipush (-2), 2) := by decide +kernel
theorem q143_23 : z_m143.2.2.2.2.2.lookup 23 = some (.ireturn, 1) := by decide +kernel
theorem q144_0 : z_m144.2.2.2.2.2.lookup 0 = some (.iload_n 1, 1) := by decide +kernel
theorem q144_1 : z_m144.2.2.2.2.2.lookup 1 = some (.invokestatic 96, 3) := by decide +kernel
theorem q144_4 : z_m144.2.2.2.2.2.lookup 4 = some (.ifCond .eq 15, 3) := by decide +kernel
theorem q144_7 : z_m144.2.2.2.2.2.lookup 7 = some (.iload_n 2, 1) := by decide +kernel
theorem q144_8 : z_m144.2.2.2.2.2.lookup 8 = some (.i2l, 1) := by decide +kernel
theorem q144_9 : z_m144.2.2.2.2.2.lookup 9 = some (.lconst 1, 1) := by decide +kernel
theorem q144_10 : z_m144.2.2.2.2.2.lookup 10 = some (.ldc2_w 89, 3) := by decide +kernel
theorem q144_13 : z_m144.2.2.2.2.2.lookup 13 = some (.invokestatic 3, 3) := by decide +kernel
theorem q144_16 : z_m144.2.2.2.2.2.lookup 16 = some (.ifCond .ne 6, 3) := by decide +kernel
theorem q144_19 : z_m144.2.2.2.2.2.lookup 19 = some (.bipush (-2), 2) := by decide +kernel
theorem q144_21 : z_m144.2.2.2.2.2.lookup 21 = some (.ireturn, 1) := by decide +kernel
theorem q144_22 : z_m144.2.2.2.2.2.lookup 22 = some (.iload_n 2, 1) := by decide +kernel
theorem q144_23 : z_m144.2.2.2.2.2.lookup 23 = some (.aload_n 0, 1) := by decide +kernel
theorem q144_24 : z_m144.2.2.2.2.2.lookup 24 = some (.getfield 91, 3) := by decide +kernel
theorem q144_27 : z_m144.2.2.2.2.2.lookup 27 = some (.iload_n 1, 1) := by decide +kernel
theorem q144_28 : z_m144.2.2.2.2.2.lookup 28 = some (.iaload, 1) := by decide +kernel
theorem q144_29 : z_m144.2.2.2.2.2.lookup 29 = some (.if_icmp .le 6, 3) := by decide +kernel
theorem q144_32 : z_m144.2.2.2.2.2.lookup 32 = some (.bipush (-3), 2) := by decide +kernel
theorem q144_34 : z_m144.2.2.2.2.2.lookup 34 = some (.ireturn, 1) := by decide +kernel
theorem q144_35 : z_m144.2.2.2.2.2.lookup 35 = some (.iload_n 2, 1) := by decide +kernel
theorem q144_36 : z_m144.2.2.2.2.2.lookup 36 = some (.aload_n 0, 1) := by decide +kernel
theorem q144_37 : z_m144.2.2.2.2.2.lookup 37 = some (.iload_n 1, 1) := by decide +kernel
theorem q144_38 : z_m144.2.2.2.2.2.lookup 38 = some (.aload_n 0, 1) := by decide +kernel
theorem q144_39 : z_m144.2.2.2.2.2.lookup 39 = some (.getfield 9, 3) := by decide +kernel
theorem q144_42 : z_m144.2.2.2.2.2.lookup 42 = some (.aload_n 0, 1) := by decide +kernel
theorem q144_43 : z_m144.2.2.2.2.2.lookup 43 = some (.getfield 9, 3) := by decide +kernel
theorem q144_46 : z_m144.2.2.2.2.2.lookup 46 = some (.invokevirtual 99, 3) := by decide +kernel
theorem q144_49 : z_m144.2.2.2.2.2.lookup 49 = some (.imul, 1) := by decide +kernel
theorem q144_50 : z_m144.2.2.2.2.2.lookup 50 = some (.bipush 100, 2) := by decide +kernel
theorem q144_52 : z_m144.2.2.2.2.2.lookup 52 = some (.idiv, 1) := by decide +kernel
theorem q144_53 : z_m144.2.2.2.2.2.lookup 53 = some (.istore_n 3, 1) := by decide +kernel
theorem q144_54 : z_m144.2.2.2.2.2.lookup 54 = some (.aload_n 0, 1) := by decide +kernel
theorem q144_55 : z_m144.2.2.2.2.2.lookup 55 = some (.getfield 91, 3) := by decide +kernel
theorem q144_58 : z_m144.2.2.2.2.2.lookup 58 = some (.iload_n 1, 1) := by decide +kernel
theorem q144_59 : z_m144.2.2.2.2.2.lookup 59 = some (.dup2, 1) := by decide +kernel
theorem q144_60 : z_m144.2.2.2.2.2.lookup 60 = some (.iaload, 1) := by decide +kernel
theorem q144_61 : z_m144.2.2.2.2.2.lookup 61 = some (.iload_n 2, 1) := by decide +kernel
theorem q144_62 : z_m144.2.2.2.2.2.lookup 62 = some (.isub, 1) := by decide +kernel
theorem q144_63 : z_m144.2.2.2.2.2.lookup 63 = some (.iastore, 1) := by decide +kernel
theorem q144_64 : z_m144.2.2.2.2.2.lookup 64 = some (.aload_n 0, 1) := by decide +kernel
theorem q144_65 : z_m144.2.2.2.2.2.lookup 65 = some (.dup, 1) := by decide +kernel
theorem q144_66 : z_m144.2.2.2.2.2.lookup 66 = some (.getfield 102, 3) := by decide +kernel
theorem q144_69 : z_m144.2.2.2.2.2.lookup 69 = some (.iload_n 3, 1) := by decide +kernel
theorem q144_70 : z_m144.2.2.2.2.2.lookup 70 = some (.iadd, 1) := by decide +kernel
theorem q144_71 : z_m144.2.2.2.2.2.lookup 71 = some (.putfield 102, 3) := by decide +kernel
theorem q144_74 : z_m144.2.2.2.2.2.lookup 74 = some (.iload_n 3, 1) := by decide +kernel
theorem q144_75 : z_m144.2.2.2.2.2.lookup 75 = some (.ireturn, 1) := by decide +kernel
theorem q145_0 : z_m145.2.2.2.2.2.lookup 0 = some (.iload_n 1, 1) := by decide +kernel
theorem q145_1 : z_m145.2.2.2.2.2.lookup 1 = some (.invokestatic 96, 3) := by decide +kernel
theorem q145_4 : z_m145.2.2.2.2.2.lookup 4 = some (.ifCond .eq 22, 3) := by decide +kernel
theorem q145_7 : z_m145.2.2.2.2.2.lookup 7 = some (.iload_n 2, 1) := by decide +kernel
theorem q145_8 : z_m145.2.2.2.2.2.lookup 8 = some (.invokestatic 105, 3) := by decide +kernel
theorem q145_11 : z_m145.2.2.2.2.2.lookup 11 = some (.ifCond .eq 15, 3) := by decide +kernel
theorem q145_14 : z_m145.2.2.2.2.2.lookup 14 = some (.iload_n 3, 1) := by decide +kernel
theorem q145_15 : z_m145.2.2.2.2.2.lookup 15 = some (.i2l, 1) := by decide +kernel
theorem q145_16 : z_m145.2.2.2.2.2.lookup 16 = some (.lconst 0, 1) := by decide +kernel
theorem q145_17 : z_m145.2.2.2.2.2.lookup 17 = some (.ldc2_w 108, 3) := by decide +kernel
theorem q145_20 : z_m145.2.2.2.2.2.lookup 20 = some (.invokestatic 3, 3) := by decide +kernel
theorem q145_23 : z_m145.2.2.2.2.2.lookup 23 = some (.ifCond .ne 6, 3) := by decide +kernel
theorem q145_26 : z_m145.2.2.2.2.2.lookup 26 = some (.bipush (-2), 2) := by decide +kernel
theorem q145_28 : z_m145.2.2.2.2.2.lookup 28 = some (.ireturn, 1) := by decide +kernel
theorem q145_29 : z_m145.2.2.2.2.2.lookup 29 = some (.aload_n 0, 1) := by decide +kernel
theorem q145_30 : z_m145.2.2.2.2.2.lookup 30 = some (.getfield 110, 3) := by decide +kernel
theorem q145_33 : z_m145.2.2.2.2.2.lookup 33 = some (.bipush 40, 2) := by decide +kernel
theorem q145_35 : z_m145.2.2.2.2.2.lookup 35 = some (.if_icmp .ne 6, 3) := by decide +kernel
theorem q145_38 : z_m145.2.2.2.2.2.lookup 38 = some (.bipush (-4), 2) := by decide +kernel
theorem q145_40 : z_m145.2.2.2.2.2.lookup 40 = some (.ireturn, 1) := by decide +kernel
theorem q145_41 : z_m145.2.2.2.2.2.lookup 41 = some (.aload_n 0, 1) := by decide +kernel
theorem q145_42 : z_m145.2.2.2.2.2.lookup 42 = some (.getfield 113, 3) := by decide +kernel
theorem q145_45 : z_m145.2.2.2.2.2.lookup 45 = some (.aload_n 0, 1) := by decide +kernel
theorem q145_46 : z_m145.2.2.2.2.2.lookup 46 = some (.getfield 110, 3) := by decide +kernel
theorem q145_49 : z_m145.2.2.2.2.2.lookup 49 = some (.iload_n 1, 1) := by decide +kernel
theorem q145_50 : z_m145.2.2.2.2.2.lookup 50 = some (.iastore, 1) := by decide +kernel
theorem q145_51 : z_m145.2.2.2.2.2.lookup 51 = some (.aload_n 0, 1) := by decide +kernel
theorem q145_52 : z_m145.2.2.2.2.2.lookup 52 = some (.getfield 116, 3) := by decide +kernel
theorem q145_55 : z_m145.2.2.2.2.2.lookup 55 = some (.aload_n 0, 1) := by decide +kernel
theorem q145_56 : z_m145.2.2.2.2.2.lookup 56 = some (.getfield 110, 3) := by decide +kernel
theorem q145_59 : z_m145.2.2.2.2.2.lookup 59 = some (.iload_n 2, 1) := by decide +kernel
theorem q145_60 : z_m145.2.2.2.2.2.lookup 60 = some (.iastore, 1) := by decide +kernel
theorem q145_61 : z_m145.2.2.2.2.2.lookup 61 = some (.aload_n 0, 1) := by decide +kernel
theorem q145_62 : z_m145.2.2.2.2.2.lookup 62 = some (.getfield 119, 3) := by decide +kernel
theorem q145_65 : z_m145.2.2.2.2.2.lookup 65 = some (.aload_n 0, 1) := by decide +kernel
theorem q145_66 : z_m145.2.2.2.2.2.lookup 66 = some (.getfield 110, 3) := by decide +kernel
theorem q145_69 : z_m145.2.2.2.2.2.lookup 69 = some (.iload_n 3, 1) := by decide +kernel
theorem q145_70 : z_m145.2.2.2.2.2.lookup 70 = some (.iastore, 1) := by decide +kernel
theorem q145_71 : z_m145.2.2.2.2.2.lookup 71 = some (.aload_n 0, 1) := by decide +kernel
theorem q145_72 : z_m145.2.2.2.2.2.lookup 72 = some (.getfield 122, 3) := by decide +kernel
theorem q145_75 : z_m145.2.2.2.2.2.lookup 75 = some (.aload_n 0, 1) := by decide +kernel
theorem q145_76 : z_m145.2.2.2.2.2.lookup 76 = some (.getfield 110, 3) := by decide +kernel
theorem q145_79 : z_m145.2.2.2.2.2.lookup 79 = some (.aload_n 0, 1) := by decide +kernel
theorem q145_80 : z_m145.2.2.2.2.2.lookup 80 = some (.getfield 9, 3) := by decide +kernel
theorem q145_83 : z_m145.2.2.2.2.2.lookup 83 = some (.iastore, 1) := by decide +kernel
theorem q145_84 : z_m145.2.2.2.2.2.lookup 84 = some (.aload_n 0, 1) := by decide +kernel
theorem q145_85 : z_m145.2.2.2.2.2.lookup 85 = some (.dup, 1) := by decide +kernel
theorem q145_86 : z_m145.2.2.2.2.2.lookup 86 = some (.getfield 110, 3) := by decide +kernel
theorem q145_89 : z_m145.2.2.2.2.2.lookup 89 = some (.iconst 1, 1) := by decide +kernel
theorem q145_90 : z_m145.2.2.2.2.2.lookup 90 = some (.iadd, 1) := by decide +kernel
theorem q145_91 : z_m145.2.2.2.2.2.lookup 91 = some (.putfield 110, 3) := by decide +kernel
theorem q145_94 : z_m145.2.2.2.2.2.lookup 94 = some (.aload_n 0, 1) := by decide +kernel
theorem q145_95 : z_m145.2.2.2.2.2.lookup 95 = some (.getfield 110, 3) := by decide +kernel
theorem q145_98 : z_m145.2.2.2.2.2.lookup 98 = some (.ireturn, 1) := by decide +kernel
theorem q146_0 : z_m146.2.2.2.2.2.lookup 0 = some (.iconst (-1), 1) := by decide +kernel
theorem q146_1 : z_m146.2.2.2.2.2.lookup 1 = some (.istore 4, 2) := by decide +kernel
theorem q146_3 : z_m146.2.2.2.2.2.lookup 3 = some (.iconst 0, 1) := by decide +kernel
theorem q146_4 : z_m146.2.2.2.2.2.lookup 4 = some (.istore 5, 2) := by decide +kernel
theorem q146_6 : z_m146.2.2.2.2.2.lookup 6 = some (.iconst 0, 1) := by decide +kernel
theorem q146_7 : z_m146.2.2.2.2.2.lookup 7 = some (.istore 6, 2) := by decide +kernel
theorem q146_9 : z_m146.2.2.2.2.2.lookup 9 = some (.iload 6, 2) := by decide +kernel
theorem q146_11 : z_m146.2.2.2.2.2.lookup 11 = some (.aload_n 0, 1) := by decide +kernel
theorem q146_12 : z_m146.2.2.2.2.2.lookup 12 = some (.getfield 110, 3) := by decide +kernel
theorem q146_15 : z_m146.2.2.2.2.2.lookup 15 = some (.if_icmp .ge 84, 3) := by decide +kernel
theorem q146_18 : z_m146.2.2.2.2.2.lookup 18 = some (.aload_n 0, 1) := by decide +kernel
theorem q146_19 : z_m146.2.2.2.2.2.lookup 19 = some (.getfield 113, 3) := by decide +kernel
theorem q146_22 : z_m146.2.2.2.2.2.lookup 22 = some (.iload 6, 2) := by decide +kernel
theorem q146_24 : z_m146.2.2.2.2.2.lookup 24 = some (.iaload, 1) := by decide +kernel
theorem q146_25 : z_m146.2.2.2.2.2.lookup 25 = some (.iload_n 1, 1) := by decide +kernel
theorem q146_26 : z_m146.2.2.2.2.2.lookup 26 = some (.if_icmp .ne 41, 3) := by decide +kernel
theorem q146_29 : z_m146.2.2.2.2.2.lookup 29 = some (.aload_n 0, 1) := by decide +kernel
theorem q146_30 : z_m146.2.2.2.2.2.lookup 30 = some (.getfield 122, 3) := by decide +kernel
theorem q146_33 : z_m146.2.2.2.2.2.lookup 33 = some (.iload 6, 2) := by decide +kernel
theorem q146_35 : z_m146.2.2.2.2.2.lookup 35 = some (.iaload, 1) := by decide +kernel
theorem q146_36 : z_m146.2.2.2.2.2.lookup 36 = some (.iload_n 3, 1) := by decide +kernel
theorem q146_37 : z_m146.2.2.2.2.2.lookup 37 = some (.if_icmp .gt 30, 3) := by decide +kernel
theorem q146_40 : z_m146.2.2.2.2.2.lookup 40 = some (.aload_n 0, 1) := by decide +kernel
theorem q146_41 : z_m146.2.2.2.2.2.lookup 41 = some (.getfield 116, 3) := by decide +kernel
theorem q146_44 : z_m146.2.2.2.2.2.lookup 44 = some (.iload 6, 2) := by decide +kernel
theorem q146_46 : z_m146.2.2.2.2.2.lookup 46 = some (.iaload, 1) := by decide +kernel
theorem q146_47 : z_m146.2.2.2.2.2.lookup 47 = some (.iload_n 2, 1) := by decide +kernel
theorem q146_48 : z_m146.2.2.2.2.2.lookup 48 = some (.if_icmp .gt 19, 3) := by decide +kernel
theorem q146_51 : z_m146.2.2.2.2.2.lookup 51 = some (.aload_n 0, 1) := by decide +kernel
theorem q146_52 : z_m146.2.2.2.2.2.lookup 52 = some (.getfield 116, 3) := by decide +kernel
theorem q146_55 : z_m146.2.2.2.2.2.lookup 55 = some (.iload 6, 2) := by decide +kernel
theorem q146_57 : z_m146.2.2.2.2.2.lookup 57 = some (.iaload, 1) := by decide +kernel
theorem q146_58 : z_m146.2.2.2.2.2.lookup 58 = some (.iload 4, 2) := by decide +kernel
theorem q146_60 : z_m146.2.2.2.2.2.lookup 60 = some (.if_icmp .lt 7, 3) := by decide +kernel
theorem q146_63 : z_m146.2.2.2.2.2.lookup 63 = some (.iconst 1, 1) := by decide +kernel
theorem q146_64 : z_m146.2.2.2.2.2.lookup 64 = some (.goto 4, 3) := by decide +kernel
theorem q146_67 : z_m146.2.2.2.2.2.lookup 67 = some (.iconst 0, 1) := by decide +kernel
theorem q146_68 : z_m146.2.2.2.2.2.lookup 68 = some (.istore 7, 2) := by decide +kernel
theorem q146_70 : z_m146.2.2.2.2.2.lookup 70 = some (.iload 7, 2) := by decide +kernel
theorem q146_72 : z_m146.2.2.2.2.2.lookup 72 = some (.ifCond .eq 21, 3) := by decide +kernel
theorem q146_75 : z_m146.2.2.2.2.2.lookup 75 = some (.aload_n 0, 1) := by decide +kernel
theorem q146_76 : z_m146.2.2.2.2.2.lookup 76 = some (.getfield 116, 3) := by decide +kernel
theorem q146_79 : z_m146.2.2.2.2.2.lookup 79 = some (.iload 6, 2) := by decide +kernel
theorem q146_81 : z_m146.2.2.2.2.2.lookup 81 = some (.iaload, 1) := by decide +kernel
theorem q146_82 : z_m146.2.2.2.2.2.lookup 82 = some (.istore 4, 2) := by decide +kernel
theorem q146_84 : z_m146.2.2.2.2.2.lookup 84 = some (.aload_n 0, 1) := by decide +kernel
theorem q146_85 : z_m146.2.2.2.2.2.lookup 85 = some (.getfield 119, 3) := by decide +kernel
theorem q146_88 : z_m146.2.2.2.2.2.lookup 88 = some (.iload 6, 2) := by decide +kernel
theorem q146_90 : z_m146.2.2.2.2.2.lookup 90 = some (.iaload, 1) := by decide +kernel
theorem q146_91 : z_m146.2.2.2.2.2.lookup 91 = some (.istore 5, 2) := by decide +kernel
theorem q146_93 : z_m146.2.2.2.2.2.lookup 93 = some (.iinc 6 1, 3) := by decide +kernel
theorem q146_96 : z_m146.2.2.2.2.2.lookup 96 = some (.goto (-87), 3) := by decide +kernel
theorem q146_99 : z_m146.2.2.2.2.2.lookup 99 = some (.iload 5, 2) := by decide +kernel
theorem q146_101 : z_m146.2.2.2.2.2.lookup 101 = some (.ireturn, 1) := by decide +kernel
theorem q147_0 : z_m147.2.2.2.2.2.lookup 0 = some (.iload_n 1, 1) := by decide +kernel
theorem q147_1 : z_m147.2.2.2.2.2.lookup 1 = some (.invokestatic 96, 3) := by decide +kernel
theorem q147_4 : z_m147.2.2.2.2.2.lookup 4 = some (.ifCond .eq 24, 3) := by decide +kernel
theorem q147_7 : z_m147.2.2.2.2.2.lookup 7 = some (.iload_n 2, 1) := by decide +kernel
theorem q147_8 : z_m147.2.2.2.2.2.lookup 8 = some (.invokestatic 105, 3) := by decide +kernel
theorem q147_11 : z_m147.2.2.2.2.2.lookup 11 = some (.ifCond .eq 17, 3) := by decide +kernel
theorem q147_14 : z_m147.2.2.2.2.2.lookup 14 = some (.iload_n 3, 1) := by decide +kernel
theorem q147_15 : z_m147.2.2.2.2.2.lookup 15 = some (.i2l, 1) := by decide +kernel
theorem q147_16 : z_m147.2.2.2.2.2.lookup 16 = some (.lconst 0, 1) := by decide +kernel
theorem q147_17 : z_m147.2.2.2.2.2.lookup 17 = some (.aload_n 0, 1) := by decide +kernel
theorem q147_18 : z_m147.2.2.2.2.2.lookup 18 = some (.getfield 9, 3) := by decide +kernel
theorem q147_21 : z_m147.2.2.2.2.2.lookup 21 = some (.i2l, 1) := by decide +kernel
theorem q147_22 : z_m147.2.2.2.2.2.lookup 22 = some (.invokestatic 3, 3) := by decide +kernel
theorem q147_25 : z_m147.2.2.2.2.2.lookup 25 = some (.ifCond .ne 6, 3) := by decide +kernel
theorem q147_28 : z_m147.2.2.2.2.2.lookup 28 = some (.bipush (-2), 2) := by decide +kernel
theorem q147_30 : z_m147.2.2.2.2.2.lookup 30 = some (.ireturn, 1) := by decide +kernel
theorem q147_31 : z_m147.2.2.2.2.2.lookup 31 = some (.aload_n 0, 1) := by decide +kernel
theorem q147_32 : z_m147.2.2.2.2.2.lookup 32 = some (.iload_n 1, 1) := by decide +kernel
theorem q147_33 : z_m147.2.2.2.2.2.lookup 33 = some (.iload_n 2, 1) := by decide +kernel
theorem q147_34 : z_m147.2.2.2.2.2.lookup 34 = some (.iload_n 3, 1) := by decide +kernel
theorem q147_35 : z_m147.2.2.2.2.2.lookup 35 = some (.invokevirtual 99, 3) := by decide +kernel
theorem q147_38 : z_m147.2.2.2.2.2.lookup 38 = some (.ireturn, 1) := by decide +kernel
theorem q148_0 : z_m148.2.2.2.2.2.lookup 0 = some (.iload_n 1, 1) := by decide +kernel
theorem q148_1 : z_m148.2.2.2.2.2.lookup 1 = some (.i2l, 1) := by decide +kernel
theorem q148_2 : z_m148.2.2.2.2.2.lookup 2 = some (.lconst 1, 1) := by decide +kernel
theorem q148_3 : z_m148.2.2.2.2.2.lookup 3 = some (.ldc2_w 125, 3) := by decide +kernel
theorem q148_6 : z_m148.2.2.2.2.2.lookup 6 = some (.invokestatic 3, 3) := by decide +kernel
theorem q148_9 : z_m148.2.2.2.2.2.lookup 9 = some (.ifCond .ne 6, 3) := by decide +kernel
theorem q148_12 : z_m148.2.2.2.2.2.lookup 12 = some (.bipush (-2), 2) := by decide +kernel
theorem q148_14 : z_m148.2.2.2.2.2.lookup 14 = some (.ireturn, 1) := by decide +kernel
theorem q148_15 : z_m148.2.2.2.2.2.lookup 15 = some (.aload_n 0, 1) := by decide +kernel
theorem q148_16 : z_m148.2.2.2.2.2.lookup 16 = some (.getfield 127, 3) := by decide +kernel
theorem q148_19 : z_m148.2.2.2.2.2.lookup 19 = some (.iload_n 1, 1) := by decide +kernel
theorem q148_20 : z_m148.2.2.2.2.2.lookup 20 = some (.iadd, 1) := by decide +kernel
theorem q148_21 : z_m148.2.2.2.2.2.lookup 21 = some (.sipush 160, 3) := by decide +kernel
theorem q148_24 : z_m148.2.2.2.2.2.lookup 24 = some (.if_icmp .le 6, 3) := by decide +kernel
theorem q148_27 : z_m148.2.2.2.2.2.lookup 27 = some (.bipush (-4), 2) := by decide +kernel
theorem q148_29 : z_m148.2.2.2.2.2.lookup 29 = some (.ireturn, 1) := by decide +kernel
theorem q148_30 : z_m148.2.2.2.2.2.lookup 30 = some (.iconst 0, 1) := by decide +kernel
theorem q148_31 : z_m148.2.2.2.2.2.lookup 31 = some (.istore 4, 2) := by decide +kernel
theorem q148_33 : z_m148.2.2.2.2.2.lookup 33 = some (.iload 4, 2) := by decide +kernel
theorem q148_35 : z_m148.2.2.2.2.2.lookup 35 = some (.iload_n 1, 1) := by decide +kernel
theorem q148_36 : z_m148.2.2.2.2.2.lookup 36 = some (.if_icmp .ge 37, 3) := by decide +kernel
theorem q148_39 : z_m148.2.2.2.2.2.lookup 39 = some (.aload_n 0, 1) := by decide +kernel
theorem q148_40 : z_m148.2.2.2.2.2.lookup 40 = some (.getfield 130, 3) := by decide +kernel
theorem q148_43 : z_m148.2.2.2.2.2.lookup 43 = some (.aload_n 0, 1) := by decide +kernel
theorem q148_44 : z_m148.2.2.2.2.2.lookup 44 = some (.getfield 127, 3) := by decide +kernel
theorem q148_47 : z_m148.2.2.2.2.2.lookup 47 = some (.lload_n 2, 1) := by decide +kernel
theorem q148_48 : z_m148.2.2.2.2.2.lookup 48 = some (.bipush 8, 2) := by decide +kernel
theorem q148_50 : z_m148.2.2.2.2.2.lookup 50 = some (.iload 4, 2) := by decide +kernel
theorem q148_52 : z_m148.2.2.2.2.2.lookup 52 = some (.imul, 1) := by decide +kernel
theorem q148_53 : z_m148.2.2.2.2.2.lookup 53 = some (.lshr, 1) := by decide +kernel
theorem q148_54 : z_m148.2.2.2.2.2.lookup 54 = some (.l2i, 1) := by decide +kernel
theorem q148_55 : z_m148.2.2.2.2.2.lookup 55 = some (.i2b, 1) := by decide +kernel
theorem q148_56 : z_m148.2.2.2.2.2.lookup 56 = some (.bastore, 1) := by decide +kernel
theorem q148_57 : z_m148.2.2.2.2.2.lookup 57 = some (.aload_n 0, 1) := by decide +kernel
theorem q148_58 : z_m148.2.2.2.2.2.lookup 58 = some (.dup, 1) := by decide +kernel
theorem q148_59 : z_m148.2.2.2.2.2.lookup 59 = some (.getfield 127, 3) := by decide +kernel
theorem q148_62 : z_m148.2.2.2.2.2.lookup 62 = some (.iconst 1, 1) := by decide +kernel
theorem q148_63 : z_m148.2.2.2.2.2.lookup 63 = some (.iadd, 1) := by decide +kernel
theorem q148_64 : z_m148.2.2.2.2.2.lookup 64 = some (.putfield 127, 3) := by decide +kernel
theorem q148_67 : z_m148.2.2.2.2.2.lookup 67 = some (.iinc 4 1, 3) := by decide +kernel
theorem q148_70 : z_m148.2.2.2.2.2.lookup 70 = some (.goto (-37), 3) := by decide +kernel
theorem q148_73 : z_m148.2.2.2.2.2.lookup 73 = some (.aload_n 0, 1) := by decide +kernel
theorem q148_74 : z_m148.2.2.2.2.2.lookup 74 = some (.getfield 127, 3) := by decide +kernel
theorem q148_77 : z_m148.2.2.2.2.2.lookup 77 = some (.ireturn, 1) := by decide +kernel
theorem q149_0 : z_m149.2.2.2.2.2.lookup 0 = some (.iload_n 1, 1) := by decide +kernel
theorem q149_1 : z_m149.2.2.2.2.2.lookup 1 = some (.aload_n 0, 1) := by decide +kernel
theorem q149_2 : z_m149.2.2.2.2.2.lookup 2 = some (.getfield 127, 3) := by decide +kernel
theorem q149_5 : z_m149.2.2.2.2.2.lookup 5 = some (.if_icmp .ge 29, 3) := by decide +kernel
theorem q149_8 : z_m149.2.2.2.2.2.lookup 8 = some (.aload_n 0, 1) := by decide +kernel
theorem q149_9 : z_m149.2.2.2.2.2.lookup 9 = some (.getfield 130, 3) := by decide +kernel
theorem q149_12 : z_m149.2.2.2.2.2.lookup 12 = some (.iload_n 1, 1) := by decide +kernel
theorem q149_13 : z_m149.2.2.2.2.2.lookup 13 = some (.baload, 1) := by decide +kernel
theorem q149_14 : z_m149.2.2.2.2.2.lookup 14 = some (.bipush 97, 2) := by decide +kernel
theorem q149_16 : z_m149.2.2.2.2.2.lookup 16 = some (.if_icmp .lt 18, 3) := by decide +kernel
theorem q149_19 : z_m149.2.2.2.2.2.lookup 19 = some (.aload_n 0, 1) := by decide +kernel
theorem q149_20 : z_m149.2.2.2.2.2.lookup 20 = some (.getfield 130, 3) := by decide +kernel
theorem q149_23 : z_m149.2.2.2.2.2.lookup 23 = some (.iload_n 1, 1) := by decide +kernel
theorem q149_24 : z_m149.2.2.2.2.2.lookup 24 = some (.baload, 1) := by decide +kernel
theorem q149_25 : z_m149.2.2.2.2.2.lookup 25 = some (.bipush 122, 2) := by decide +kernel
theorem q149_27 : z_m149.2.2.2.2.2.lookup 27 = some (.if_icmp .gt 7, 3) := by decide +kernel
theorem q149_30 : z_m149.2.2.2.2.2.lookup 30 = some (.iconst 1, 1) := by decide +kernel
theorem q149_31 : z_m149.2.2.2.2.2.lookup 31 = some (.goto 4, 3) := by decide +kernel
theorem q149_34 : z_m149.2.2.2.2.2.lookup 34 = some (.iconst 0, 1) := by decide +kernel
theorem q149_35 : z_m149.2.2.2.2.2.lookup 35 = some (.ireturn, 1) := by decide +kernel
theorem q150_0 : z_m150.2.2.2.2.2.lookup 0 = some (.iload_n 1, 1) := by decide +kernel
theorem q150_1 : z_m150.2.2.2.2.2.lookup 1 = some (.aload_n 0, 1) := by decide +kernel
theorem q150_2 : z_m150.2.2.2.2.2.lookup 2 = some (.getfield 127, 3) := by decide +kernel
theorem q150_5 : z_m150.2.2.2.2.2.lookup 5 = some (.if_icmp .ge 29, 3) := by decide +kernel
theorem q150_8 : z_m150.2.2.2.2.2.lookup 8 = some (.aload_n 0, 1) := by decide +kernel
theorem q150_9 : z_m150.2.2.2.2.2.lookup 9 = some (.getfield 130, 3) := by decide +kernel
theorem q150_12 : z_m150.2.2.2.2.2.lookup 12 = some (.iload_n 1, 1) := by decide +kernel
theorem q150_13 : z_m150.2.2.2.2.2.lookup 13 = some (.baload, 1) := by decide +kernel
theorem q150_14 : z_m150.2.2.2.2.2.lookup 14 = some (.bipush 48, 2) := by decide +kernel
theorem q150_16 : z_m150.2.2.2.2.2.lookup 16 = some (.if_icmp .lt 18, 3) := by decide +kernel
theorem q150_19 : z_m150.2.2.2.2.2.lookup 19 = some (.aload_n 0, 1) := by decide +kernel
theorem q150_20 : z_m150.2.2.2.2.2.lookup 20 = some (.getfield 130, 3) := by decide +kernel
theorem q150_23 : z_m150.2.2.2.2.2.lookup 23 = some (.iload_n 1, 1) := by decide +kernel
theorem q150_24 : z_m150.2.2.2.2.2.lookup 24 = some (.baload, 1) := by decide +kernel
theorem q150_25 : z_m150.2.2.2.2.2.lookup 25 = some (.bipush 57, 2) := by decide +kernel
theorem q150_27 : z_m150.2.2.2.2.2.lookup 27 = some (.if_icmp .gt 7, 3) := by decide +kernel
theorem q150_30 : z_m150.2.2.2.2.2.lookup 30 = some (.iconst 1, 1) := by decide +kernel
theorem q150_31 : z_m150.2.2.2.2.2.lookup 31 = some (.goto 4, 3) := by decide +kernel
theorem q150_34 : z_m150.2.2.2.2.2.lookup 34 = some (.iconst 0, 1) := by decide +kernel
theorem q150_35 : z_m150.2.2.2.2.2.lookup 35 = some (.ireturn, 1) := by decide +kernel
theorem q151_0 : z_m151.2.2.2.2.2.lookup 0 = some (.aload_n 0, 1) := by decide +kernel
theorem q151_1 : z_m151.2.2.2.2.2.lookup 1 = some (.aload_n 0, 1) := by decide +kernel
theorem q151_2 : z_m151.2.2.2.2.2.lookup 2 = some (.getfield 134, 3) := by decide +kernel
theorem q151_5 : z_m151.2.2.2.2.2.lookup 5 = some (.invokevirtual 137, 3) := by decide +kernel
theorem q151_8 : z_m151.2.2.2.2.2.lookup 8 = some (.ifCond .eq 16, 3) := by decide +kernel
theorem q151_11 : z_m151.2.2.2.2.2.lookup 11 = some (.aload_n 0, 1) := by decide +kernel
theorem q151_12 : z_m151.2.2.2.2.2.lookup 12 = some (.dup, 1) := by decide +kernel
theorem q151_13 : z_m151.2.2.2.2.2.lookup 13 = some (.getfield 134, 3) := by decide +kernel
theorem q151_16 : z_m151.2.2.2.2.2.lookup 16 = some (.iconst 1, 1) := by decide +kernel
theorem q151_17 : z_m151.2.2.2.2.2.lookup 17 = some (.iadd, 1) := by decide +kernel
theorem q151_18 : z_m151.2.2.2.2.2.lookup 18 = some (.putfield 134, 3) := by decide +kernel
theorem q151_21 : z_m151.2.2.2.2.2.lookup 21 = some (.goto (-21), 3) := by decide +kernel
theorem q151_24 : z_m151.2.2.2.2.2.lookup 24 = some (.aload_n 0, 1) := by decide +kernel
theorem q151_25 : z_m151.2.2.2.2.2.lookup 25 = some (.iconst 5, 1) := by decide +kernel
theorem q151_26 : z_m151.2.2.2.2.2.lookup 26 = some (.putfield 140, 3) := by decide +kernel
theorem q151_29 : z_m151.2.2.2.2.2.lookup 29 = some (.iconst 0, 1) := by decide +kernel
theorem q151_30 : z_m151.2.2.2.2.2.lookup 30 = some (.istore_n 1, 1) := by decide +kernel
theorem q151_31 : z_m151.2.2.2.2.2.lookup 31 = some (.iload_n 1, 1) := by decide +kernel
theorem q151_32 : z_m151.2.2.2.2.2.lookup 32 = some (.bipush 12, 2) := by decide +kernel
theorem q151_34 : z_m151.2.2.2.2.2.lookup 34 = some (.if_icmp .ge 135, 3) := by decide +kernel
theorem q151_37 : z_m151.2.2.2.2.2.lookup 37 = some (.aload_n 0, 1) := by decide +kernel
theorem q151_38 : z_m151.2.2.2.2.2.lookup 38 = some (.getfield 143, 3) := by decide +kernel
theorem q151_41 : z_m151.2.2.2.2.2.lookup 41 = some (.iload_n 1, 1) := by decide +kernel
theorem q151_42 : z_m151.2.2.2.2.2.lookup 42 = some (.iconst 1, 1) := by decide +kernel
theorem q151_43 : z_m151.2.2.2.2.2.lookup 43 = some (.iadd, 1) := by decide +kernel
theorem q151_44 : z_m151.2.2.2.2.2.lookup 44 = some (.iaload, 1) := by decide +kernel
theorem q151_45 : z_m151.2.2.2.2.2.lookup 45 = some (.aload_n 0, 1) := by decide +kernel
theorem q151_46 : z_m151.2.2.2.2.2.lookup 46 = some (.getfield 143, 3) := by decide +kernel
theorem q151_49 : z_m151.2.2.2.2.2.lookup 49 = some (.iload_n 1, 1) := by decide +kernel
theorem q151_50 : z_m151.2.2.2.2.2.lookup 50 = some (.iaload, 1) := by decide +kernel
theorem q151_51 : z_m151.2.2.2.2.2.lookup 51 = some (.isub, 1) := by decide +kernel
theorem q151_52 : z_m151.2.2.2.2.2.lookup 52 = some (.istore_n 2, 1) := by decide +kernel
theorem q151_53 : z_m151.2.2.2.2.2.lookup 53 = some (.iload_n 2, 1) := by decide +kernel
theorem q151_54 : z_m151.2.2.2.2.2.lookup 54 = some (.aload_n 0, 1) := by decide +kernel
theorem q151_55 : z_m151.2.2.2.2.2.lookup 55 = some (.getfield 134, 3) := by decide +kernel
theorem q151_58 : z_m151.2.2.2.2.2.lookup 58 = some (.aload_n 0, 1) := by decide +kernel
theorem q151_59 : z_m151.2.2.2.2.2.lookup 59 = some (.getfield 146, 3) := by decide +kernel
theorem q151_62 : z_m151.2.2.2.2.2.lookup 62 = some (.isub, 1) := by decide +kernel
theorem q151_63 : z_m151.2.2.2.2.2.lookup 63 = some (.if_icmp .ne 7, 3) := by decide +kernel
theorem q151_66 : z_m151.2.2.2.2.2.lookup 66 = some (.iconst 1, 1) := by decide +kernel
theorem q151_67 : z_m151.2.2.2.2.2.lookup 67 = some (.goto 4, 3) := by decide +kernel
theorem q151_70 : z_m151.2.2.2.2.2.lookup 70 = some (.iconst 0, 1) := by decide +kernel
theorem q151_71 : z_m151.2.2.2.2.2.lookup 71 = some (.istore_n 3, 1) := by decide +kernel
theorem q151_72 : z_m151.2.2.2.2.2.lookup 72 = some (.iconst 0, 1) := by decide +kernel
theorem q151_73 : z_m151.2.2.2.2.2.lookup 73 = some (.istore 4, 2) := by decide +kernel
theorem q151_75 : z_m151.2.2.2.2.2.lookup 75 = some (.iload 4, 2) := by decide +kernel
theorem q151_77 : z_m151.2.2.2.2.2.lookup 77 = some (.iload_n 2, 1) := by decide +kernel
theorem q151_78 : z_m151.2.2.2.2.2.lookup 78 = some (.if_icmp .ge 48, 3) := by decide +kernel
theorem q151_81 : z_m151.2.2.2.2.2.lookup 81 = some (.iload_n 3, 1) := by decide +kernel
theorem q151_82 : z_m151.2.2.2.2.2.lookup 82 = some (.ifCond .eq 44, 3) := by decide +kernel
theorem q151_85 : z_m151.2.2.2.2.2.lookup 85 = some (.aload_n 0, 1) := by decide +kernel
theorem q151_86 : z_m151.2.2.2.2.2.lookup 86 = some (.getfield 130, 3) := by decide +kernel
theorem q151_89 : z_m151.2.2.2.2.2.lookup 89 = some (.aload_n 0, 1) := by decide +kernel
theorem q151_90 : z_m151.2.2.2.2.2.lookup 90 = some (.getfield 146, 3) := by decide +kernel
theorem q151_93 : z_m151.2.2.2.2.2.lookup 93 = some (.iload 4, 2) := by decide +kernel
theorem q151_95 : z_m151.2.2.2.2.2.lookup 95 = some (.iadd, 1) := by decide +kernel
theorem q151_96 : z_m151.2.2.2.2.2.lookup 96 = some (.baload, 1) := by decide +kernel
theorem q151_97 : z_m151.2.2.2.2.2.lookup 97 = some (.aload_n 0, 1) := by decide +kernel
theorem q151_98 : z_m151.2.2.2.2.2.lookup 98 = some (.getfield 149, 3) := by decide +kernel
theorem q151_101 : z_m151.2.2.2.2.2.lookup 101 = some (.aload_n 0, 1) := by decide +kernel
theorem q151_102 : z_m151.2.2.2.2.2.lookup 102 = some (.getfield 143, 3) := by decide +kernel
theorem q151_105 : z_m151.2.2.2.2.2.lookup 105 = some (.iload_n 1, 1) := by decide +kernel
theorem q151_106 : z_m151.2.2.2.2.2.lookup 106 = some (.iaload, 1) := by decide +kernel
theorem q151_107 : z_m151.2.2.2.2.2.lookup 107 = some (.iload 4, 2) := by decide +kernel
theorem q151_109 : z_m151.2.2.2.2.2.lookup 109 = some (.iadd, 1) := by decide +kernel
theorem q151_110 : z_m151.2.2.2.2.2.lookup 110 = some (.caload, 1) := by decide +kernel
theorem q151_111 : z_m151.2.2.2.2.2.lookup 111 = some (.if_icmp .ne 7, 3) := by decide +kernel
theorem q151_114 : z_m151.2.2.2.2.2.lookup 114 = some (.iconst 1, 1) := by decide +kernel
theorem q151_115 : z_m151.2.2.2.2.2.lookup 115 = some (.goto 4, 3) := by decide +kernel
theorem q151_118 : z_m151.2.2.2.2.2.lookup 118 = some (.iconst 0, 1) := by decide +kernel
theorem q151_119 : z_m151.2.2.2.2.2.lookup 119 = some (.istore_n 3, 1) := by decide +kernel
theorem q151_120 : z_m151.2.2.2.2.2.lookup 120 = some (.iinc 4 1, 3) := by decide +kernel
theorem q151_123 : z_m151.2.2.2.2.2.lookup 123 = some (.goto (-48), 3) := by decide +kernel
theorem q151_126 : z_m151.2.2.2.2.2.lookup 126 = some (.iload_n 3, 1) := by decide +kernel
theorem q151_127 : z_m151.2.2.2.2.2.lookup 127 = some (.ifCond .eq 36, 3) := by decide +kernel
theorem q151_130 : z_m151.2.2.2.2.2.lookup 130 = some (.aload_n 0, 1) := by decide +kernel
theorem q151_131 : z_m151.2.2.2.2.2.lookup 131 = some (.iload_n 1, 1) := by decide +kernel
theorem q151_132 : z_m151.2.2.2.2.2.lookup 132 = some (.bipush 6, 2) := by decide +kernel
theorem q151_134 : z_m151.2.2.2.2.2.lookup 134 = some (.if_icmp .ge 7, 3) := by decide +kernel
theorem q151_137 : z_m151.2.2.2.2.2.lookup 137 = some (.iconst 2, 1) := by decide +kernel
theorem q151_138 : z_m151.2.2.2.2.2.lookup 138 = some (.goto 4, 3) := by decide +kernel
theorem q151_141 : z_m151.2.2.2.2.2.lookup 141 = some (.iconst 4, 1) := by decide +kernel
theorem q151_142 : z_m151.2.2.2.2.2.lookup 142 = some (.putfield 140, 3) := by decide +kernel
theorem q151_145 : z_m151.2.2.2.2.2.lookup 145 = some (.aload_n 0, 1) := by decide +kernel
theorem q151_146 : z_m151.2.2.2.2.2.lookup 146 = some (.iload_n 1, 1) := by decide +kernel
theorem q151_147 : z_m151.2.2.2.2.2.lookup 147 = some (.bipush 6, 2) := by decide +kernel
theorem q151_149 : z_m151.2.2.2.2.2.lookup 149 = some (.if_icmp .ge 7, 3) := by decide +kernel
theorem q151_152 : z_m151.2.2.2.2.2.lookup 152 = some (.iload_n 1, 1) := by decide +kernel
theorem q151_153 : z_m151.2.2.2.2.2.lookup 153 = some (.goto 7, 3) := by decide +kernel
theorem q151_156 : z_m151.2.2.2.2.2.lookup 156 = some (.iload_n 1, 1) := by decide +kernel
theorem q151_157 : z_m151.2.2.2.2.2.lookup 157 = some (.bipush 6, 2) := by decide +kernel
theorem q151_159 : z_m151.2.2.2.2.2.lookup 159 = some (.isub, 1) := by decide +kernel
theorem q151_160 : z_m151.2.2.2.2.2.lookup 160 = some (.putfield 153, 3) := by decide +kernel
theorem q151_163 : z_m151.2.2.2.2.2.lookup 163 = some (.iinc 1 1, 3) := by decide +kernel
theorem q151_166 : z_m151.2.2.2.2.2.lookup 166 = some (.goto (-135), 3) := by decide +kernel
theorem q151_169 : z_m151.2.2.2.2.2.lookup 169 = some (.return_, 1) := by decide +kernel
theorem q152_0 : z_m152.2.2.2.2.2.lookup 0 = some (.aload_n 0, 1) := by decide +kernel
theorem q152_1 : z_m152.2.2.2.2.2.lookup 1 = some (.iconst 0, 1) := by decide +kernel
theorem q152_2 : z_m152.2.2.2.2.2.lookup 2 = some (.putfield 153, 3) := by decide +kernel
theorem q152_5 : z_m152.2.2.2.2.2.lookup 5 = some (.aload_n 0, 1) := by decide +kernel
theorem q152_6 : z_m152.2.2.2.2.2.lookup 6 = some (.aload_n 0, 1) := by decide +kernel
theorem q152_7 : z_m152.2.2.2.2.2.lookup 7 = some (.getfield 134, 3) := by decide +kernel
theorem q152_10 : z_m152.2.2.2.2.2.lookup 10 = some (.invokevirtual 156, 3) := by decide +kernel
theorem q152_13 : z_m152.2.2.2.2.2.lookup 13 = some (.ifCond .eq 60, 3) := by decide +kernel
theorem q152_16 : z_m152.2.2.2.2.2.lookup 16 = some (.aload_n 0, 1) := by decide +kernel
theorem q152_17 : z_m152.2.2.2.2.2.lookup 17 = some (.aload_n 0, 1) := by decide +kernel
theorem q152_18 : z_m152.2.2.2.2.2.lookup 18 = some (.getfield 134, 3) := by decide +kernel
theorem q152_21 : z_m152.2.2.2.2.2.lookup 21 = some (.aload_n 0, 1) := by decide +kernel
theorem q152_22 : z_m152.2.2.2.2.2.lookup 22 = some (.getfield 146, 3) := by decide +kernel
theorem q152_25 : z_m152.2.2.2.2.2.lookup 25 = some (.isub, 1) := by decide +kernel
theorem q152_26 : z_m152.2.2.2.2.2.lookup 26 = some (.iconst 4, 1) := by decide +kernel
theorem q152_27 : z_m152.2.2.2.2.2.lookup 27 = some (.if_icmp .ge 26, 3) := by decide +kernel
theorem q152_30 : z_m152.2.2.2.2.2.lookup 30 = some (.bipush 10, 2) := by decide +kernel
theorem q152_32 : z_m152.2.2.2.2.2.lookup 32 = some (.aload_n 0, 1) := by decide +kernel
theorem q152_33 : z_m152.2.2.2.2.2.lookup 33 = some (.getfield 153, 3) := by decide +kernel
theorem q152_36 : z_m152.2.2.2.2.2.lookup 36 = some (.imul, 1) := by decide +kernel
theorem q152_37 : z_m152.2.2.2.2.2.lookup 37 = some (.aload_n 0, 1) := by decide +kernel
theorem q152_38 : z_m152.2.2.2.2.2.lookup 38 = some (.getfield 130, 3) := by decide +kernel
theorem q152_41 : z_m152.2.2.2.2.2.lookup 41 = some (.aload_n 0, 1) := by decide +kernel
theorem q152_42 : z_m152.2.2.2.2.2.lookup 42 = some (.getfield 134, 3) := by decide +kernel
theorem q152_45 : z_m152.2.2.2.2.2.lookup 45 = some (.baload, 1) := by decide +kernel
theorem q152_46 : z_m152.2.2.2.2.2.lookup 46 = some (.iadd, 1) := by decide +kernel
theorem q152_47 : z_m152.2.2.2.2.2.lookup 47 = some (.bipush 48, 2) := by decide +kernel
theorem q152_49 : z_m152.2.2.2.2.2.lookup 49 = some (.isub, 1) := by decide +kernel
theorem q152_50 : z_m152.2.2.2.2.2.lookup 50 = some (.goto 7, 3) := by decide +kernel
theorem q152_53 : z_m152.2.2.2.2.2.lookup 53 = some (.aload_n 0, 1) := by decide +kernel
theorem q152_54 : z_m152.2.2.2.2.2.lookup 54 = some (.getfield 153, 3) := by decide +kernel
theorem q152_57 : z_m152.2.2.2.2.2.lookup 57 = some (.putfield 153, 3) := by decide +kernel
theorem q152_60 : z_m152.2.2.2.2.2.lookup 60 = some (.aload_n 0, 1) := by decide +kernel
theorem q152_61 : z_m152.2.2.2.2.2.lookup 61 = some (.dup, 1) := by decide +kernel
theorem q152_62 : z_m152.2.2.2.2.2.lookup 62 = some (.getfield 134, 3) := by decide +kernel
theorem q152_65 : z_m152.2.2.2.2.2.lookup 65 = some (.iconst 1, 1) := by decide +kernel
theorem q152_66 : z_m152.2.2.2.2.2.lookup 66 = some (.iadd, 1) := by decide +kernel
theorem q152_67 : z_m152.2.2.2.2.2.lookup 67 = some (.putfield 134, 3) := by decide +kernel
theorem q152_70 : z_m152.2.2.2.2.2.lookup 70 = some (.goto (-65), 3) := by decide +kernel
theorem q152_73 : z_m152.2.2.2.2.2.lookup 73 = some (.aload_n 0, 1) := by decide +kernel
theorem q152_74 : z_m152.2.2.2.2.2.lookup 74 = some (.aload_n 0, 1) := by decide +kernel
theorem q152_75 : z_m152.2.2.2.2.2.lookup 75 = some (.getfield 134, 3) := by decide +kernel
theorem q152_78 : z_m152.2.2.2.2.2.lookup 78 = some (.aload_n 0, 1) := by decide +kernel
theorem q152_79 : z_m152.2.2.2.2.2.lookup 79 = some (.getfield 146, 3) := by decide +kernel
theorem q152_82 : z_m152.2.2.2.2.2.lookup 82 = some (.isub, 1) := by decide +kernel
theorem q152_83 : z_m152.2.2.2.2.2.lookup 83 = some (.iconst 4, 1) := by decide +kernel
theorem q152_84 : z_m152.2.2.2.2.2.lookup 84 = some (.if_icmp .le 7, 3) := by decide +kernel
theorem q152_87 : z_m152.2.2.2.2.2.lookup 87 = some (.iconst 5, 1) := by decide +kernel
theorem q152_88 : z_m152.2.2.2.2.2.lookup 88 = some (.goto 4, 3) := by decide +kernel
theorem q152_91 : z_m152.2.2.2.2.2.lookup 91 = some (.iconst 1, 1) := by decide +kernel
theorem q152_92 : z_m152.2.2.2.2.2.lookup 92 = some (.putfield 140, 3) := by decide +kernel
theorem q152_95 : z_m152.2.2.2.2.2.lookup 95 = some (.return_, 1) := by decide +kernel
theorem q153_0 : z_m153.2.2.2.2.2.lookup 0 = some (.aload_n 0, 1) := by decide +kernel
theorem q153_1 : z_m153.2.2.2.2.2.lookup 1 = some (.getfield 134, 3) := by decide +kernel
theorem q153_4 : z_m153.2.2.2.2.2.lookup 4 = some (.aload_n 0, 1) := by decide +kernel
theorem q153_5 : z_m153.2.2.2.2.2.lookup 5 = some (.getfield 127, 3) := by decide +kernel
theorem q153_8 : z_m153.2.2.2.2.2.lookup 8 = some (.if_icmp .ge 44, 3) := by decide +kernel
theorem q153_11 : z_m153.2.2.2.2.2.lookup 11 = some (.aload_n 0, 1) := by decide +kernel
theorem q153_12 : z_m153.2.2.2.2.2.lookup 12 = some (.getfield 130, 3) := by decide +kernel
theorem q153_15 : z_m153.2.2.2.2.2.lookup 15 = some (.aload_n 0, 1) := by decide +kernel
theorem q153_16 : z_m153.2.2.2.2.2.lookup 16 = some (.getfield 134, 3) := by decide +kernel
theorem q153_19 : z_m153.2.2.2.2.2.lookup 19 = some (.baload, 1) := by decide +kernel
theorem q153_20 : z_m153.2.2.2.2.2.lookup 20 = some (.bipush 32, 2) := by decide +kernel
theorem q153_22 : z_m153.2.2.2.2.2.lookup 22 = some (.if_icmp .eq 17, 3) := by decide +kernel
theorem q153_25 : z_m153.2.2.2.2.2.lookup 25 = some (.aload_n 0, 1) := by decide +kernel
theorem q153_26 : z_m153.2.2.2.2.2.lookup 26 = some (.getfield 130, 3) := by decide +kernel
theorem q153_29 : z_m153.2.2.2.2.2.lookup 29 = some (.aload_n 0, 1) := by decide +kernel
theorem q153_30 : z_m153.2.2.2.2.2.lookup 30 = some (.getfield 134, 3) := by decide +kernel
theorem q153_33 : z_m153.2.2.2.2.2.lookup 33 = some (.baload, 1) := by decide +kernel
theorem q153_34 : z_m153.2.2.2.2.2.lookup 34 = some (.bipush 10, 2) := by decide +kernel
theorem q153_36 : z_m153.2.2.2.2.2.lookup 36 = some (.if_icmp .ne 16, 3) := by decide +kernel
theorem q153_39 : z_m153.2.2.2.2.2.lookup 39 = some (.aload_n 0, 1) := by decide +kernel
theorem q153_40 : z_m153.2.2.2.2.2.lookup 40 = some (.dup, 1) := by decide +kernel
theorem q153_41 : z_m153.2.2.2.2.2.lookup 41 = some (.getfield 134, 3) := by decide +kernel
theorem q153_44 : z_m153.2.2.2.2.2.lookup 44 = some (.iconst 1, 1) := by decide +kernel
theorem q153_45 : z_m153.2.2.2.2.2.lookup 45 = some (.iadd, 1) := by decide +kernel
theorem q153_46 : z_m153.2.2.2.2.2.lookup 46 = some (.putfield 134, 3) := by decide +kernel
theorem q153_49 : z_m153.2.2.2.2.2.lookup 49 = some (.goto (-49), 3) := by decide +kernel
theorem q153_52 : z_m153.2.2.2.2.2.lookup 52 = some (.aload_n 0, 1) := by decide +kernel
theorem q153_53 : z_m153.2.2.2.2.2.lookup 53 = some (.aload_n 0, 1) := by decide +kernel
theorem q153_54 : z_m153.2.2.2.2.2.lookup 54 = some (.getfield 134, 3) := by decide +kernel
theorem q153_57 : z_m153.2.2.2.2.2.lookup 57 = some (.putfield 146, 3) := by decide +kernel
theorem q153_60 : z_m153.2.2.2.2.2.lookup 60 = some (.aload_n 0, 1) := by decide +kernel
theorem q153_61 : z_m153.2.2.2.2.2.lookup 61 = some (.getfield 134, 3) := by decide +kernel
theorem q153_64 : z_m153.2.2.2.2.2.lookup 64 = some (.aload_n 0, 1) := by decide +kernel
theorem q153_65 : z_m153.2.2.2.2.2.lookup 65 = some (.getfield 127, 3) := by decide +kernel
theorem q153_68 : z_m153.2.2.2.2.2.lookup 68 = some (.if_icmp .ne 11, 3) := by decide +kernel
theorem q153_71 : z_m153.2.2.2.2.2.lookup 71 = some (.aload_n 0, 1) := by decide +kernel
theorem q153_72 : z_m153.2.2.2.2.2.lookup 72 = some (.iconst 0, 1) := by decide +kernel
theorem q153_73 : z_m153.2.2.2.2.2.lookup 73 = some (.putfield 140, 3) := by decide +kernel
theorem q153_76 : z_m153.2.2.2.2.2.lookup 76 = some (.goto 153, 3) := by decide +kernel
theorem q153_79 : z_m153.2.2.2.2.2.lookup 79 = some (.aload_n 0, 1) := by decide +kernel
theorem q153_80 : z_m153.2.2.2.2.2.lookup 80 = some (.aload_n 0, 1) := by decide +kernel
theorem q153_81 : z_m153.2.2.2.2.2.lookup 81 = some (.getfield 134, 3) := by decide +kernel
theorem q153_84 : z_m153.2.2.2.2.2.lookup 84 = some (.invokevirtual 137, 3) := by decide +kernel
theorem q153_87 : z_m153.2.2.2.2.2.lookup 87 = some (.ifCond .eq 10, 3) := by decide +kernel
theorem q153_90 : z_m153.2.2.2.2.2.lookup 90 = some (.aload_n 0, 1) := by decide +kernel
theorem q153_91 : z_m153.2.2.2.2.2.lookup 91 = some (.invokevirtual 159, 3) := by decide +kernel
theorem q153_94 : z_m153.2.2.2.2.2.lookup 94 = some (.goto 135, 3) := by decide +kernel
theorem q153_97 : z_m153.2.2.2.2.2.lookup 97 = some (.aload_n 0, 1) := by decide +kernel
theorem q153_98 : z_m153.2.2.2.2.2.lookup 98 = some (.aload_n 0, 1) := by decide +kernel
theorem q153_99 : z_m153.2.2.2.2.2.lookup 99 = some (.getfield 134, 3) := by decide +kernel
theorem q153_102 : z_m153.2.2.2.2.2.lookup 102 = some (.invokevirtual 156, 3) := by decide +kernel
theorem q153_105 : z_m153.2.2.2.2.2.lookup 105 = some (.ifCond .eq 10, 3) := by decide +kernel
theorem q153_108 : z_m153.2.2.2.2.2.lookup 108 = some (.aload_n 0, 1) := by decide +kernel
theorem q153_109 : z_m153.2.2.2.2.2.lookup 109 = some (.invokevirtual 163, 3) := by decide +kernel
theorem q153_112 : z_m153.2.2.2.2.2.lookup 112 = some (.goto 117, 3) := by decide +kernel
theorem q153_115 : z_m153.2.2.2.2.2.lookup 115 = some (.aload_n 0, 1) := by decide +kernel
theorem q153_116 : z_m153.2.2.2.2.2.lookup 116 = some (.aload_n 0, 1) := by decide +kernel
theorem q153_117 : z_m153.2.2.2.2.2.lookup 117 = some (.getfield 130, 3) := by decide +kernel
theorem q153_120 : z_m153.2.2.2.2.2.lookup 120 = some (.aload_n 0, 1) := by decide +kernel
theorem q153_121 : z_m153.2.2.2.2.2.lookup 121 = some (.getfield 134, 3) := by decide +kernel
theorem q153_124 : z_m153.2.2.2.2.2.lookup 124 = some (.baload, 1) := by decide +kernel
theorem q153_125 : z_m153.2.2.2.2.2.lookup 125 = some (.putfield 153, 3) := by decide +kernel
theorem q153_128 : z_m153.2.2.2.2.2.lookup 128 = some (.aload_n 0, 1) := by decide +kernel
theorem q153_129 : z_m153.2.2.2.2.2.lookup 129 = some (.getfield 153, 3) := by decide +kernel
theorem q153_132 : z_m153.2.2.2.2.2.lookup 132 = some (.bipush 40, 2) := by decide +kernel
theorem q153_134 : z_m153.2.2.2.2.2.lookup 134 = some (.if_icmp .eq 66, 3) := by decide +kernel
theorem q153_137 : z_m153.2.2.2.2.2.lookup 137 = some (.aload_n 0, 1) := by decide +kernel
theorem q153_138 : z_m153.2.2.2.2.2.lookup 138 = some (.getfield 153, 3) := by decide +kernel
theorem q153_141 : z_m153.2.2.2.2.2.lookup 141 = some (.bipush 41, 2) := by decide +kernel
theorem q153_143 : z_m153.2.2.2.2.2.lookup 143 = some (.if_icmp .eq 57, 3) := by decide +kernel
theorem q153_146 : z_m153.2.2.2.2.2.lookup 146 = some (.aload_n 0, 1) := by decide +kernel
theorem q153_147 : z_m153.2.2.2.2.2.lookup 147 = some (.getfield 153, 3) := by decide +kernel
theorem q153_150 : z_m153.2.2.2.2.2.lookup 150 = some (.bipush 59, 2) := by decide +kernel
theorem q153_152 : z_m153.2.2.2.2.2.lookup 152 = some (.if_icmp .eq 48, 3) := by decide +kernel
theorem q153_155 : z_m153.2.2.2.2.2.lookup 155 = some (.aload_n 0, 1) := by decide +kernel
theorem q153_156 : z_m153.2.2.2.2.2.lookup 156 = some (.getfield 153, 3) := by decide +kernel
theorem q153_159 : z_m153.2.2.2.2.2.lookup 159 = some (.bipush 43, 2) := by decide +kernel
theorem q153_161 : z_m153.2.2.2.2.2.lookup 161 = some (.if_icmp .eq 39, 3) := by decide +kernel
theorem q153_164 : z_m153.2.2.2.2.2.lookup 164 = some (.aload_n 0, 1) := by decide +kernel
theorem q153_165 : z_m153.2.2.2.2.2.lookup 165 = some (.getfield 153, 3) := by decide +kernel
theorem q153_168 : z_m153.2.2.2.2.2.lookup 168 = some (.bipush 45, 2) := by decide +kernel
theorem q153_170 : z_m153.2.2.2.2.2.lookup 170 = some (.if_icmp .eq 30, 3) := by decide +kernel
theorem q153_173 : z_m153.2.2.2.2.2.lookup 173 = some (.aload_n 0, 1) := by decide +kernel
theorem q153_174 : z_m153.2.2.2.2.2.lookup 174 = some (.getfield 153, 3) := by decide +kernel
theorem q153_177 : z_m153.2.2.2.2.2.lookup 177 = some (.bipush 42, 2) := by decide +kernel
theorem q153_179 : z_m153.2.2.2.2.2.lookup 179 = some (.if_icmp .eq 21, 3) := by decide +kernel
theorem q153_182 : z_m153.2.2.2.2.2.lookup 182 = some (.aload_n 0, 1) := by decide +kernel
theorem q153_183 : z_m153.2.2.2.2.2.lookup 183 = some (.getfield 153, 3) := by decide +kernel
theorem q153_186 : z_m153.2.2.2.2.2.lookup 186 = some (.bipush 60, 2) := by decide +kernel
theorem q153_188 : z_m153.2.2.2.2.2.lookup 188 = some (.if_icmp .eq 12, 3) := by decide +kernel
theorem q153_191 : z_m153.2.2.2.2.2.lookup 191 = some (.aload_n 0, 1) := by decide +kernel
theorem q153_192 : z_m153.2.2.2.2.2.lookup 192 = some (.getfield 153, 3) := by decide +kernel
theorem q153_195 : z_m153.2.2.2.2.2.lookup 195 = some (.bipush 61, 2) := by decide +kernel
theorem q153_197 : z_m153.2.2.2.2.2.lookup 197 = some (.if_icmp .ne 7, 3) := by decide +kernel
theorem q153_200 : z_m153.2.2.2.2.2.lookup 200 = some (.iconst 1, 1) := by decide +kernel
theorem q153_201 : z_m153.2.2.2.2.2.lookup 201 = some (.goto 4, 3) := by decide +kernel
theorem q153_204 : z_m153.2.2.2.2.2.lookup 204 = some (.iconst 0, 1) := by decide +kernel
theorem q153_205 : z_m153.2.2.2.2.2.lookup 205 = some (.istore_n 1, 1) := by decide +kernel
theorem q153_206 : z_m153.2.2.2.2.2.lookup 206 = some (.aload_n 0, 1) := by decide +kernel
theorem q153_207 : z_m153.2.2.2.2.2.lookup 207 = some (.iload_n 1, 1) := by decide +kernel
theorem q153_208 : z_m153.2.2.2.2.2.lookup 208 = some (.ifCond .eq 7, 3) := by decide +kernel
theorem q153_211 : z_m153.2.2.2.2.2.lookup 211 = some (.iconst 3, 1) := by decide +kernel
theorem q153_212 : z_m153.2.2.2.2.2.lookup 212 = some (.goto 4, 3) := by decide +kernel
theorem q153_215 : z_m153.2.2.2.2.2.lookup 215 = some (.iconst 5, 1) := by decide +kernel
theorem q153_216 : z_m153.2.2.2.2.2.lookup 216 = some (.putfield 140, 3) := by decide +kernel
theorem q153_219 : z_m153.2.2.2.2.2.lookup 219 = some (.aload_n 0, 1) := by decide +kernel
theorem q153_220 : z_m153.2.2.2.2.2.lookup 220 = some (.dup, 1) := by decide +kernel
theorem q153_221 : z_m153.2.2.2.2.2.lookup 221 = some (.getfield 134, 3) := by decide +kernel
theorem q153_224 : z_m153.2.2.2.2.2.lookup 224 = some (.iconst 1, 1) := by decide +kernel
theorem q153_225 : z_m153.2.2.2.2.2.lookup 225 = some (.iadd, 1) := by decide +kernel
theorem q153_226 : z_m153.2.2.2.2.2.lookup 226 = some (.putfield 134, 3) := by decide +kernel
theorem q153_229 : z_m153.2.2.2.2.2.lookup 229 = some (.return_, 1) := by decide +kernel
theorem q154_0 : z_m154.2.2.2.2.2.lookup 0 = some (.aload_n 0, 1) := by decide +kernel
theorem q154_1 : z_m154.2.2.2.2.2.lookup 1 = some (.getfield 140, 3) := by decide +kernel
theorem q154_4 : z_m154.2.2.2.2.2.lookup 4 = some (.iconst 3, 1) := by decide +kernel
theorem q154_5 : z_m154.2.2.2.2.2.lookup 5 = some (.if_icmp .ne 15, 3) := by decide +kernel
theorem q154_8 : z_m154.2.2.2.2.2.lookup 8 = some (.aload_n 0, 1) := by decide +kernel
theorem q154_9 : z_m154.2.2.2.2.2.lookup 9 = some (.getfield 153, 3) := by decide +kernel
theorem q154_12 : z_m154.2.2.2.2.2.lookup 12 = some (.iload_n 1, 1) := by decide +kernel
theorem q154_13 : z_m154.2.2.2.2.2.lookup 13 = some (.if_icmp .ne 7, 3) := by decide +kernel
theorem q154_16 : z_m154.2.2.2.2.2.lookup 16 = some (.iconst 1, 1) := by decide +kernel
theorem q154_17 : z_m154.2.2.2.2.2.lookup 17 = some (.goto 4, 3) := by decide +kernel
theorem q154_20 : z_m154.2.2.2.2.2.lookup 20 = some (.iconst 0, 1) := by decide +kernel
theorem q154_21 : z_m154.2.2.2.2.2.lookup 21 = some (.ireturn, 1) := by decide +kernel
theorem q155_0 : z_m155.2.2.2.2.2.lookup 0 = some (.aload_n 0, 1) := by decide +kernel
theorem q155_1 : z_m155.2.2.2.2.2.lookup 1 = some (.getfield 140, 3) := by decide +kernel
theorem q155_4 : z_m155.2.2.2.2.2.lookup 4 = some (.iconst 4, 1) := by decide +kernel
theorem q155_5 : z_m155.2.2.2.2.2.lookup 5 = some (.if_icmp .ne 15, 3) := by decide +kernel
theorem q155_8 : z_m155.2.2.2.2.2.lookup 8 = some (.aload_n 0, 1) := by decide +kernel
theorem q155_9 : z_m155.2.2.2.2.2.lookup 9 = some (.getfield 153, 3) := by decide +kernel
theorem q155_12 : z_m155.2.2.2.2.2.lookup 12 = some (.iload_n 1, 1) := by decide +kernel
theorem q155_13 : z_m155.2.2.2.2.2.lookup 13 = some (.if_icmp .ne 7, 3) := by decide +kernel
theorem q155_16 : z_m155.2.2.2.2.2.lookup 16 = some (.iconst 1, 1) := by decide +kernel
theorem q155_17 : z_m155.2.2.2.2.2.lookup 17 = some (.goto 4, 3) := by decide +kernel
theorem q155_20 : z_m155.2.2.2.2.2.lookup 20 = some (.iconst 0, 1) := by decide +kernel
theorem q155_21 : z_m155.2.2.2.2.2.lookup 21 = some (.ireturn, 1) := by decide +kernel
theorem q156_0 : z_m156.2.2.2.2.2.lookup 0 = some (.aload_n 0, 1) := by decide +kernel
theorem q156_1 : z_m156.2.2.2.2.2.lookup 1 = some (.getfield 166, 3) := by decide +kernel
theorem q156_4 : z_m156.2.2.2.2.2.lookup 4 = some (.aload_n 0, 1) := by decide +kernel
theorem q156_5 : z_m156.2.2.2.2.2.lookup 5 = some (.getfield 169, 3) := by decide +kernel
theorem q156_8 : z_m156.2.2.2.2.2.lookup 8 = some (.aload_n 0, 1) := by decide +kernel
theorem q156_9 : z_m156.2.2.2.2.2.lookup 9 = some (.getfield 172, 3) := by decide +kernel
theorem q156_12 : z_m156.2.2.2.2.2.lookup 12 = some (.iadd, 1) := by decide +kernel
theorem q156_13 : z_m156.2.2.2.2.2.lookup 13 = some (.iload_n 1, 1) := by decide +kernel
theorem q156_14 : z_m156.2.2.2.2.2.lookup 14 = some (.iastore, 1) := by decide +kernel
theorem q156_15 : z_m156.2.2.2.2.2.lookup 15 = some (.aload_n 0, 1) := by decide +kernel
theorem q156_16 : z_m156.2.2.2.2.2.lookup 16 = some (.dup, 1) := by decide +kernel
theorem q156_17 : z_m156.2.2.2.2.2.lookup 17 = some (.getfield 172, 3) := by decide +kernel
theorem q156_20 : z_m156.2.2.2.2.2.lookup 20 = some (.iconst 1, 1) := by decide +kernel
theorem q156_21 : z_m156.2.2.2.2.2.lookup 21 = some (.iadd, 1) := by decide +kernel
theorem q156_22 : z_m156.2.2.2.2.2.lookup 22 = some (.putfield 172, 3) := by decide +kernel
theorem q156_25 : z_m156.2.2.2.2.2.lookup 25 = some (.return_, 1) := by decide +kernel
theorem q157_0 : z_m157.2.2.2.2.2.lookup 0 = some (.iload_n 0, 1) := by decide +kernel
theorem q157_1 : z_m157.2.2.2.2.2.lookup 1 = some (.bipush 12, 2) := by decide +kernel
theorem q157_3 : z_m157.2.2.2.2.2.lookup 3 = some (.if_icmp .ne 7, 3) := by decide +kernel
theorem q157_6 : z_m157.2.2.2.2.2.lookup 6 = some (.iconst 1, 1) := by decide +kernel
theorem q157_7 : z_m157.2.2.2.2.2.lookup 7 = some (.goto 78, 3) := by decide +kernel
theorem q157_10 : z_m157.2.2.2.2.2.lookup 10 = some (.iload_n 0, 1) := by decide +kernel
theorem q157_11 : z_m157.2.2.2.2.2.lookup 11 = some (.bipush 11, 2) := by decide +kernel
theorem q157_13 : z_m157.2.2.2.2.2.lookup 13 = some (.if_icmp .ne 7, 3) := by decide +kernel
theorem q157_16 : z_m157.2.2.2.2.2.lookup 16 = some (.iconst 2, 1) := by decide +kernel
theorem q157_17 : z_m157.2.2.2.2.2.lookup 17 = some (.goto 68, 3) := by decide +kernel
theorem q157_20 : z_m157.2.2.2.2.2.lookup 20 = some (.iload_n 0, 1) := by decide +kernel
theorem q157_21 : z_m157.2.2.2.2.2.lookup 21 = some (.bipush 13, 2) := by decide +kernel
theorem q157_23 : z_m157.2.2.2.2.2.lookup 23 = some (.if_icmp .ne 7, 3) := by decide +kernel
theorem q157_26 : z_m157.2.2.2.2.2.lookup 26 = some (.iconst 3, 1) := by decide +kernel
theorem q157_27 : z_m157.2.2.2.2.2.lookup 27 = some (.goto 58, 3) := by decide +kernel
theorem q157_30 : z_m157.2.2.2.2.2.lookup 30 = some (.iload_n 0, 1) := by decide +kernel
theorem q157_31 : z_m157.2.2.2.2.2.lookup 31 = some (.bipush 9, 2) := by decide +kernel
theorem q157_33 : z_m157.2.2.2.2.2.lookup 33 = some (.if_icmp .eq 9, 3) := by decide +kernel
theorem q157_36 : z_m157.2.2.2.2.2.lookup 36 = some (.iload_n 0, 1) := by decide +kernel
theorem q157_37 : z_m157.2.2.2.2.2.lookup 37 = some (.bipush 10, 2) := by decide +kernel
theorem q157_39 : z_m157.2.2.2.2.2.lookup 39 = some (.if_icmp .ne 7, 3) := by decide +kernel
theorem q157_42 : z_m157.2.2.2.2.2.lookup 42 = some (.iconst 4, 1) := by decide +kernel
theorem q157_43 : z_m157.2.2.2.2.2.lookup 43 = some (.goto 42, 3) := by decide +kernel
theorem q157_46 : z_m157.2.2.2.2.2.lookup 46 = some (.iload_n 0, 1) := by decide +kernel
theorem q157_47 : z_m157.2.2.2.2.2.lookup 47 = some (.bipush 6, 2) := by decide +kernel
theorem q157_49 : z_m157.2.2.2.2.2.lookup 49 = some (.if_icmp .eq 9, 3) := by decide +kernel
theorem q157_52 : z_m157.2.2.2.2.2.lookup 52 = some (.iload_n 0, 1) := by decide +kernel
theorem q157_53 : z_m157.2.2.2.2.2.lookup 53 = some (.bipush 7, 2) := by decide +kernel
theorem q157_55 : z_m157.2.2.2.2.2.lookup 55 = some (.if_icmp .ne 7, 3) := by decide +kernel
theorem q157_58 : z_m157.2.2.2.2.2.lookup 58 = some (.iconst 5, 1) := by decide +kernel
theorem q157_59 : z_m157.2.2.2.2.2.lookup 59 = some (.goto 26, 3) := by decide +kernel
theorem q157_62 : z_m157.2.2.2.2.2.lookup 62 = some (.iload_n 0, 1) := by decide +kernel
theorem q157_63 : z_m157.2.2.2.2.2.lookup 63 = some (.bipush 8, 2) := by decide +kernel
theorem q157_65 : z_m157.2.2.2.2.2.lookup 65 = some (.if_icmp .ne 8, 3) := by decide +kernel
theorem q157_68 : z_m157.2.2.2.2.2.lookup 68 = some (.bipush 6, 2) := by decide +kernel
theorem q157_70 : z_m157.2.2.2.2.2.lookup 70 = some (.goto 15, 3) := by decide +kernel
theorem q157_73 : z_m157.2.2.2.2.2.lookup 73 = some (.iload_n 0, 1) := by decide +kernel
theorem q157_74 : z_m157.2.2.2.2.2.lookup 74 = some (.bipush 14, 2) := by decide +kernel
theorem q157_76 : z_m157.2.2.2.2.2.lookup 76 = some (.if_icmp .ne 8, 3) := by decide +kernel
theorem q157_79 : z_m157.2.2.2.2.2.lookup 79 = some (.bipush 7, 2) := by decide +kernel
theorem q157_81 : z_m157.2.2.2.2.2.lookup 81 = some (.goto 4, 3) := by decide +kernel
theorem q157_84 : z_m157.2.2.2.2.2.lookup 84 = some (.iconst 0, 1) := by decide +kernel
theorem q157_85 : z_m157.2.2.2.2.2.lookup 85 = some (.ireturn, 1) := by decide +kernel
theorem q158_0 : z_m158.2.2.2.2.2.lookup 0 = some (.aload_n 0, 1) := by decide +kernel
theorem q158_1 : z_m158.2.2.2.2.2.lookup 1 = some (.getfield 175, 3) := by decide +kernel
theorem q158_4 : z_m158.2.2.2.2.2.lookup 4 = some (.ifCond .le 105, 3) := by decide +kernel
theorem q158_7 : z_m158.2.2.2.2.2.lookup 7 = some (.aload_n 0, 1) := by decide +kernel
theorem q158_8 : z_m158.2.2.2.2.2.lookup 8 = some (.getfield 178, 3) := by decide +kernel
theorem q158_11 : z_m158.2.2.2.2.2.lookup 11 = some (.aload_n 0, 1) := by decide +kernel
theorem q158_12 : z_m158.2.2.2.2.2.lookup 12 = some (.getfield 175, 3) := by decide +kernel
theorem q158_15 : z_m158.2.2.2.2.2.lookup 15 = some (.iconst 1, 1) := by decide +kernel
theorem q158_16 : z_m158.2.2.2.2.2.lookup 16 = some (.isub, 1) := by decide +kernel
theorem q158_17 : z_m158.2.2.2.2.2.lookup 17 = some (.iaload, 1) := by decide +kernel
theorem q158_18 : z_m158.2.2.2.2.2.lookup 18 = some (.bipush 15, 2) := by decide +kernel
theorem q158_20 : z_m158.2.2.2.2.2.lookup 20 = some (.if_icmp .eq 89, 3) := by decide +kernel
theorem q158_23 : z_m158.2.2.2.2.2.lookup 23 = some (.aload_n 0, 1) := by decide +kernel
theorem q158_24 : z_m158.2.2.2.2.2.lookup 24 = some (.getfield 178, 3) := by decide +kernel
theorem q158_27 : z_m158.2.2.2.2.2.lookup 27 = some (.aload_n 0, 1) := by decide +kernel
theorem q158_28 : z_m158.2.2.2.2.2.lookup 28 = some (.getfield 175, 3) := by decide +kernel
theorem q158_31 : z_m158.2.2.2.2.2.lookup 31 = some (.iconst 1, 1) := by decide +kernel
theorem q158_32 : z_m158.2.2.2.2.2.lookup 32 = some (.isub, 1) := by decide +kernel
theorem q158_33 : z_m158.2.2.2.2.2.lookup 33 = some (.iaload, 1) := by decide +kernel
theorem q158_34 : z_m158.2.2.2.2.2.lookup 34 = some (.invokestatic 181, 3) := by decide +kernel
theorem q158_37 : z_m158.2.2.2.2.2.lookup 37 = some (.iload_n 1, 1) := by decide +kernel
theorem q158_38 : z_m158.2.2.2.2.2.lookup 38 = some (.if_icmp .lt 71, 3) := by decide +kernel
theorem q158_41 : z_m158.2.2.2.2.2.lookup 41 = some (.aload_n 0, 1) := by decide +kernel
theorem q158_42 : z_m158.2.2.2.2.2.lookup 42 = some (.dup, 1) := by decide +kernel
theorem q158_43 : z_m158.2.2.2.2.2.lookup 43 = some (.getfield 175, 3) := by decide +kernel
theorem q158_46 : z_m158.2.2.2.2.2.lookup 46 = some (.iconst 1, 1) := by decide +kernel
theorem q158_47 : z_m158.2.2.2.2.2.lookup 47 = some (.isub, 1) := by decide +kernel
theorem q158_48 : z_m158.2.2.2.2.2.lookup 48 = some (.putfield 175, 3) := by decide +kernel
theorem q158_51 : z_m158.2.2.2.2.2.lookup 51 = some (.aload_n 0, 1) := by decide +kernel
theorem q158_52 : z_m158.2.2.2.2.2.lookup 52 = some (.dup, 1) := by decide +kernel
theorem q158_53 : z_m158.2.2.2.2.2.lookup 53 = some (.getfield 184, 3) := by decide +kernel
theorem q158_56 : z_m158.2.2.2.2.2.lookup 56 = some (.aload_n 0, 1) := by decide +kernel
theorem q158_57 : z_m158.2.2.2.2.2.lookup 57 = some (.getfield 178, 3) := by decide +kernel
theorem q158_60 : z_m158.2.2.2.2.2.lookup 60 = some (.aload_n 0, 1) := by decide +kernel
theorem q158_61 : z_m158.2.2.2.2.2.lookup 61 = some (.getfield 175, 3) := by decide +kernel
theorem q158_64 : z_m158.2.2.2.2.2.lookup 64 = some (.iaload, 1) := by decide +kernel
theorem q158_65 : z_m158.2.2.2.2.2.lookup 65 = some (.bipush 13, 2) := by decide +kernel
theorem q158_67 : z_m158.2.2.2.2.2.lookup 67 = some (.if_icmp .eq 17, 3) := by decide +kernel
theorem q158_70 : z_m158.2.2.2.2.2.lookup 70 = some (.aload_n 0, 1) := by decide +kernel
theorem q158_71 : z_m158.2.2.2.2.2.lookup 71 = some (.getfield 178, 3) := by decide +kernel
theorem q158_74 : z_m158.2.2.2.2.2.lookup 74 = some (.aload_n 0, 1) := by decide +kernel
theorem q158_75 : z_m158.2.2.2.2.2.lookup 75 = some (.getfield 175, 3) := by decide +kernel
theorem q158_78 : z_m158.2.2.2.2.2.lookup 78 = some (.iaload, 1) := by decide +kernel
theorem q158_79 : z_m158.2.2.2.2.2.lookup 79 = some (.bipush 14, 2) := by decide +kernel
theorem q158_81 : z_m158.2.2.2.2.2.lookup 81 = some (.if_icmp .ne 7, 3) := by decide +kernel
theorem q158_84 : z_m158.2.2.2.2.2.lookup 84 = some (.iconst 1, 1) := by decide +kernel
theorem q158_85 : z_m158.2.2.2.2.2.lookup 85 = some (.goto 4, 3) := by decide +kernel
theorem q158_88 : z_m158.2.2.2.2.2.lookup 88 = some (.iconst 0, 1) := by decide +kernel
theorem q158_89 : z_m158.2.2.2.2.2.lookup 89 = some (.isub, 1) := by decide +kernel
theorem q158_90 : z_m158.2.2.2.2.2.lookup 90 = some (.putfield 184, 3) := by decide +kernel
theorem q158_93 : z_m158.2.2.2.2.2.lookup 93 = some (.aload_n 0, 1) := by decide +kernel
theorem q158_94 : z_m158.2.2.2.2.2.lookup 94 = some (.aload_n 0, 1) := by decide +kernel
theorem q158_95 : z_m158.2.2.2.2.2.lookup 95 = some (.getfield 178, 3) := by decide +kernel
theorem q158_98 : z_m158.2.2.2.2.2.lookup 98 = some (.aload_n 0, 1) := by decide +kernel
theorem q158_99 : z_m158.2.2.2.2.2.lookup 99 = some (.getfield 175, 3) := by decide +kernel
theorem q158_102 : z_m158.2.2.2.2.2.lookup 102 = some (.iaload, 1) := by decide +kernel
theorem q158_103 : z_m158.2.2.2.2.2.lookup 103 = some (.invokevirtual 187, 3) := by decide +kernel
theorem q158_106 : z_m158.2.2.2.2.2.lookup 106 = some (.goto (-106), 3) := by decide +kernel
theorem q158_109 : z_m158.2.2.2.2.2.lookup 109 = some (.return_, 1) := by decide +kernel
theorem q159_0 : z_m159.2.2.2.2.2.lookup 0 = some (.aload_n 0, 1) := by decide +kernel
theorem q159_1 : z_m159.2.2.2.2.2.lookup 1 = some (.getfield 178, 3) := by decide +kernel
theorem q159_4 : z_m159.2.2.2.2.2.lookup 4 = some (.aload_n 0, 1) := by decide +kernel
theorem q159_5 : z_m159.2.2.2.2.2.lookup 5 = some (.getfield 175, 3) := by decide +kernel
theorem q159_8 : z_m159.2.2.2.2.2.lookup 8 = some (.iload_n 1, 1) := by decide +kernel
theorem q159_9 : z_m159.2.2.2.2.2.lookup 9 = some (.iastore, 1) := by decide +kernel
theorem q159_10 : z_m159.2.2.2.2.2.lookup 10 = some (.aload_n 0, 1) := by decide +kernel
theorem q159_11 : z_m159.2.2.2.2.2.lookup 11 = some (.dup, 1) := by decide +kernel
theorem q159_12 : z_m159.2.2.2.2.2.lookup 12 = some (.getfield 175, 3) := by decide +kernel
theorem q159_15 : z_m159.2.2.2.2.2.lookup 15 = some (.iconst 1, 1) := by decide +kernel
theorem q159_16 : z_m159.2.2.2.2.2.lookup 16 = some (.iadd, 1) := by decide +kernel
theorem q159_17 : z_m159.2.2.2.2.2.lookup 17 = some (.putfield 175, 3) := by decide +kernel
theorem q159_20 : z_m159.2.2.2.2.2.lookup 20 = some (.return_, 1) := by decide +kernel
theorem q160_0 : z_m160.2.2.2.2.2.lookup 0 = some (.aload_n 0, 1) := by decide +kernel
theorem q160_1 : z_m160.2.2.2.2.2.lookup 1 = some (.bipush 43, 2) := by decide +kernel
theorem q160_3 : z_m160.2.2.2.2.2.lookup 3 = some (.invokevirtual 191, 3) := by decide +kernel
theorem q160_6 : z_m160.2.2.2.2.2.lookup 6 = some (.ifCond .eq 8, 3) := by decide +kernel
theorem q160_9 : z_m160.2.2.2.2.2.lookup 9 = some (.bipush 6, 2) := by decide +kernel
theorem q160_11 : z_m160.2.2.2.2.2.lookup 11 = some (.goto 86, 3) := by decide +kernel
theorem q160_14 : z_m160.2.2.2.2.2.lookup 14 = some (.aload_n 0, 1) := by decide +kernel
theorem q160_15 : z_m160.2.2.2.2.2.lookup 15 = some (.bipush 45, 2) := by decide +kernel
theorem q160_17 : z_m160.2.2.2.2.2.lookup 17 = some (.invokevirtual 191, 3) := by decide +kernel
theorem q160_20 : z_m160.2.2.2.2.2.lookup 20 = some (.ifCond .eq 8, 3) := by decide +kernel
theorem q160_23 : z_m160.2.2.2.2.2.lookup 23 = some (.bipush 7, 2) := by decide +kernel
theorem q160_25 : z_m160.2.2.2.2.2.lookup 25 = some (.goto 72, 3) := by decide +kernel
theorem q160_28 : z_m160.2.2.2.2.2.lookup 28 = some (.aload_n 0, 1) := by decide +kernel
theorem q160_29 : z_m160.2.2.2.2.2.lookup 29 = some (.bipush 42, 2) := by decide +kernel
theorem q160_31 : z_m160.2.2.2.2.2.lookup 31 = some (.invokevirtual 191, 3) := by decide +kernel
theorem q160_34 : z_m160.2.2.2.2.2.lookup 34 = some (.ifCond .eq 8, 3) := by decide +kernel
theorem q160_37 : z_m160.2.2.2.2.2.lookup 37 = some (.bipush 8, 2) := by decide +kernel
theorem q160_39 : z_m160.2.2.2.2.2.lookup 39 = some (.goto 58, 3) := by decide +kernel
theorem q160_42 : z_m160.2.2.2.2.2.lookup 42 = some (.aload_n 0, 1) := by decide +kernel
theorem q160_43 : z_m160.2.2.2.2.2.lookup 43 = some (.bipush 60, 2) := by decide +kernel
theorem q160_45 : z_m160.2.2.2.2.2.lookup 45 = some (.invokevirtual 191, 3) := by decide +kernel
theorem q160_48 : z_m160.2.2.2.2.2.lookup 48 = some (.ifCond .eq 8, 3) := by decide +kernel
theorem q160_51 : z_m160.2.2.2.2.2.lookup 51 = some (.bipush 9, 2) := by decide +kernel
theorem q160_53 : z_m160.2.2.2.2.2.lookup 53 = some (.goto 44, 3) := by decide +kernel
theorem q160_56 : z_m160.2.2.2.2.2.lookup 56 = some (.aload_n 0, 1) := by decide +kernel
theorem q160_57 : z_m160.2.2.2.2.2.lookup 57 = some (.bipush 61, 2) := by decide +kernel
theorem q160_59 : z_m160.2.2.2.2.2.lookup 59 = some (.invokevirtual 191, 3) := by decide +kernel
theorem q160_62 : z_m160.2.2.2.2.2.lookup 62 = some (.ifCond .eq 8, 3) := by decide +kernel
theorem q160_65 : z_m160.2.2.2.2.2.lookup 65 = some (.bipush 10, 2) := by decide +kernel
theorem q160_67 : z_m160.2.2.2.2.2.lookup 67 = some (.goto 30, 3) := by decide +kernel
theorem q160_70 : z_m160.2.2.2.2.2.lookup 70 = some (.aload_n 0, 1) := by decide +kernel
theorem q160_71 : z_m160.2.2.2.2.2.lookup 71 = some (.iconst 4, 1) := by decide +kernel
theorem q160_72 : z_m160.2.2.2.2.2.lookup 72 = some (.invokevirtual 194, 3) := by decide +kernel
theorem q160_75 : z_m160.2.2.2.2.2.lookup 75 = some (.ifCond .eq 8, 3) := by decide +kernel
theorem q160_78 : z_m160.2.2.2.2.2.lookup 78 = some (.bipush 11, 2) := by decide +kernel
theorem q160_80 : z_m160.2.2.2.2.2.lookup 80 = some (.goto 17, 3) := by decide +kernel
theorem q160_83 : z_m160.2.2.2.2.2.lookup 83 = some (.aload_n 0, 1) := by decide +kernel
theorem q160_84 : z_m160.2.2.2.2.2.lookup 84 = some (.iconst 3, 1) := by decide +kernel
theorem q160_85 : z_m160.2.2.2.2.2.lookup 85 = some (.invokevirtual 194, 3) := by decide +kernel
theorem q160_88 : z_m160.2.2.2.2.2.lookup 88 = some (.ifCond .eq 8, 3) := by decide +kernel
theorem q160_91 : z_m160.2.2.2.2.2.lookup 91 = some (.bipush 12, 2) := by decide +kernel
theorem q160_93 : z_m160.2.2.2.2.2.lookup 93 = some (.goto 4, 3) := by decide +kernel
theorem q160_96 : z_m160.2.2.2.2.2.lookup 96 = some (.iconst (-1), 1) := by decide +kernel
theorem q160_97 : z_m160.2.2.2.2.2.lookup 97 = some (.istore_n 1, 1) := by decide +kernel
theorem q160_98 : z_m160.2.2.2.2.2.lookup 98 = some (.iload_n 1, 1) := by decide +kernel
theorem q160_99 : z_m160.2.2.2.2.2.lookup 99 = some (.iconst (-1), 1) := by decide +kernel
theorem q160_100 : z_m160.2.2.2.2.2.lookup 100 = some (.if_icmp .eq 23, 3) := by decide +kernel
theorem q160_103 : z_m160.2.2.2.2.2.lookup 103 = some (.iload_n 1, 1) := by decide +kernel
theorem q160_104 : z_m160.2.2.2.2.2.lookup 104 = some (.invokestatic 181, 3) := by decide +kernel
theorem q160_107 : z_m160.2.2.2.2.2.lookup 107 = some (.iconst 4, 1) := by decide +kernel
theorem q160_108 : z_m160.2.2.2.2.2.lookup 108 = some (.if_icmp .ne 17, 3) := by decide +kernel
theorem q160_111 : z_m160.2.2.2.2.2.lookup 111 = some (.aload_n 0, 1) := by decide +kernel
theorem q160_112 : z_m160.2.2.2.2.2.lookup 112 = some (.getfield 197, 3) := by decide +kernel
theorem q160_115 : z_m160.2.2.2.2.2.lookup 115 = some (.aload_n 0, 1) := by decide +kernel
theorem q160_116 : z_m160.2.2.2.2.2.lookup 116 = some (.getfield 200, 3) := by decide +kernel
theorem q160_119 : z_m160.2.2.2.2.2.lookup 119 = some (.baload, 1) := by decide +kernel
theorem q160_120 : z_m160.2.2.2.2.2.lookup 120 = some (.ifCond .eq 5, 3) := by decide +kernel
theorem q160_123 : z_m160.2.2.2.2.2.lookup 123 = some (.iconst 0, 1) := by decide +kernel
theorem q160_124 : z_m160.2.2.2.2.2.lookup 124 = some (.ireturn, 1) := by decide +kernel
theorem q160_125 : z_m160.2.2.2.2.2.lookup 125 = some (.aload_n 0, 1) := by decide +kernel
theorem q160_126 : z_m160.2.2.2.2.2.lookup 126 = some (.iload_n 1, 1) := by decide +kernel
theorem q160_127 : z_m160.2.2.2.2.2.lookup 127 = some (.invokestatic 181, 3) := by decide +kernel
theorem q160_130 : z_m160.2.2.2.2.2.lookup 130 = some (.invokevirtual 203, 3) := by decide +kernel
theorem q160_133 : z_m160.2.2.2.2.2.lookup 133 = some (.aload_n 0, 1) := by decide +kernel
theorem q160_134 : z_m160.2.2.2.2.2.lookup 134 = some (.iload_n 1, 1) := by decide +kernel
theorem q160_135 : z_m160.2.2.2.2.2.lookup 135 = some (.invokevirtual 206, 3) := by decide +kernel
theorem q160_138 : z_m160.2.2.2.2.2.lookup 138 = some (.aload_n 0, 1) := by decide +kernel
theorem q160_139 : z_m160.2.2.2.2.2.lookup 139 = some (.getfield 197, 3) := by decide +kernel
theorem q160_142 : z_m160.2.2.2.2.2.lookup 142 = some (.aload_n 0, 1) := by decide +kernel
theorem q160_143 : z_m160.2.2.2.2.2.lookup 143 = some (.getfield 200, 3) := by decide +kernel
theorem q160_146 : z_m160.2.2.2.2.2.lookup 146 = some (.iload_n 1, 1) := by decide +kernel
theorem q160_147 : z_m160.2.2.2.2.2.lookup 147 = some (.invokestatic 181, 3) := by decide +kernel
theorem q160_150 : z_m160.2.2.2.2.2.lookup 150 = some (.iconst 4, 1) := by decide +kernel
theorem q160_151 : z_m160.2.2.2.2.2.lookup 151 = some (.if_icmp .eq 23, 3) := by decide +kernel
theorem q160_154 : z_m160.2.2.2.2.2.lookup 154 = some (.iload_n 1, 1) := by decide +kernel
theorem q160_155 : z_m160.2.2.2.2.2.lookup 155 = some (.invokestatic 181, 3) := by decide +kernel
theorem q160_158 : z_m160.2.2.2.2.2.lookup 158 = some (.iconst 4, 1) := by decide +kernel
theorem q160_159 : z_m160.2.2.2.2.2.lookup 159 = some (.if_icmp .le 19, 3) := by decide +kernel
theorem q160_162 : z_m160.2.2.2.2.2.lookup 162 = some (.aload_n 0, 1) := by decide +kernel
theorem q160_163 : z_m160.2.2.2.2.2.lookup 163 = some (.getfield 197, 3) := by decide +kernel
theorem q160_166 : z_m160.2.2.2.2.2.lookup 166 = some (.aload_n 0, 1) := by decide +kernel
theorem q160_167 : z_m160.2.2.2.2.2.lookup 167 = some (.getfield 200, 3) := by decide +kernel
theorem q160_170 : z_m160.2.2.2.2.2.lookup 170 = some (.baload, 1) := by decide +kernel
theorem q160_171 : z_m160.2.2.2.2.2.lookup 171 = some (.ifCond .eq 7, 3) := by decide +kernel
theorem q160_174 : z_m160.2.2.2.2.2.lookup 174 = some (.iconst 1, 1) := by decide +kernel
theorem q160_175 : z_m160.2.2.2.2.2.lookup 175 = some (.goto 4, 3) := by decide +kernel
theorem q160_178 : z_m160.2.2.2.2.2.lookup 178 = some (.iconst 0, 1) := by decide +kernel
theorem q160_179 : z_m160.2.2.2.2.2.lookup 179 = some (.bastore, 1) := by decide +kernel
theorem q160_180 : z_m160.2.2.2.2.2.lookup 180 = some (.iconst 1, 1) := by decide +kernel
theorem q160_181 : z_m160.2.2.2.2.2.lookup 181 = some (.ireturn, 1) := by decide +kernel
theorem q161_0 : z_m161.2.2.2.2.2.lookup 0 = some (.aload_n 0, 1) := by decide +kernel
theorem q161_1 : z_m161.2.2.2.2.2.lookup 1 = some (.bipush 41, 2) := by decide +kernel
theorem q161_3 : z_m161.2.2.2.2.2.lookup 3 = some (.invokevirtual 191, 3) := by decide +kernel
theorem q161_6 : z_m161.2.2.2.2.2.lookup 6 = some (.ifCond .eq 10, 3) := by decide +kernel
theorem q161_9 : z_m161.2.2.2.2.2.lookup 9 = some (.aload_n 0, 1) := by decide +kernel
theorem q161_10 : z_m161.2.2.2.2.2.lookup 10 = some (.getfield 200, 3) := by decide +kernel
theorem q161_13 : z_m161.2.2.2.2.2.lookup 13 = some (.ifCond .ne 5, 3) := by decide +kernel
theorem q161_16 : z_m161.2.2.2.2.2.lookup 16 = some (.iconst 0, 1) := by decide +kernel
theorem q161_17 : z_m161.2.2.2.2.2.lookup 17 = some (.ireturn, 1) := by decide +kernel
theorem q161_18 : z_m161.2.2.2.2.2.lookup 18 = some (.aload_n 0, 1) := by decide +kernel
theorem q161_19 : z_m161.2.2.2.2.2.lookup 19 = some (.iconst 1, 1) := by decide +kernel
theorem q161_20 : z_m161.2.2.2.2.2.lookup 20 = some (.invokevirtual 203, 3) := by decide +kernel
theorem q161_23 : z_m161.2.2.2.2.2.lookup 23 = some (.aload_n 0, 1) := by decide +kernel
theorem q161_24 : z_m161.2.2.2.2.2.lookup 24 = some (.dup, 1) := by decide +kernel
theorem q161_25 : z_m161.2.2.2.2.2.lookup 25 = some (.getfield 175, 3) := by decide +kernel
theorem q161_28 : z_m161.2.2.2.2.2.lookup 28 = some (.iconst 1, 1) := by decide +kernel
theorem q161_29 : z_m161.2.2.2.2.2.lookup 29 = some (.isub, 1) := by decide +kernel
theorem q161_30 : z_m161.2.2.2.2.2.lookup 30 = some (.putfield 175, 3) := by decide +kernel
theorem q161_33 : z_m161.2.2.2.2.2.lookup 33 = some (.aload_n 0, 1) := by decide +kernel
theorem q161_34 : z_m161.2.2.2.2.2.lookup 34 = some (.dup, 1) := by decide +kernel
theorem q161_35 : z_m161.2.2.2.2.2.lookup 35 = some (.getfield 200, 3) := by decide +kernel
theorem q161_38 : z_m161.2.2.2.2.2.lookup 38 = some (.iconst 1, 1) := by decide +kernel
theorem q161_39 : z_m161.2.2.2.2.2.lookup 39 = some (.isub, 1) := by decide +kernel
theorem q161_40 : z_m161.2.2.2.2.2.lookup 40 = some (.putfield 200, 3) := by decide +kernel
theorem q161_43 : z_m161.2.2.2.2.2.lookup 43 = some (.aload_n 0, 1) := by decide +kernel
theorem q161_44 : z_m161.2.2.2.2.2.lookup 44 = some (.dup, 1) := by decide +kernel
theorem q161_45 : z_m161.2.2.2.2.2.lookup 45 = some (.getfield 184, 3) := by decide +kernel
theorem q161_48 : z_m161.2.2.2.2.2.lookup 48 = some (.iconst 1, 1) := by decide +kernel
theorem q161_49 : z_m161.2.2.2.2.2.lookup 49 = some (.isub, 1) := by decide +kernel
theorem q161_50 : z_m161.2.2.2.2.2.lookup 50 = some (.putfield 184, 3) := by decide +kernel
theorem q161_53 : z_m161.2.2.2.2.2.lookup 53 = some (.aload_n 0, 1) := by decide +kernel
theorem q161_54 : z_m161.2.2.2.2.2.lookup 54 = some (.bipush 7, 2) := by decide +kernel
theorem q161_56 : z_m161.2.2.2.2.2.lookup 56 = some (.invokevirtual 203, 3) := by decide +kernel
theorem q161_59 : z_m161.2.2.2.2.2.lookup 59 = some (.iconst 1, 1) := by decide +kernel
theorem q161_60 : z_m161.2.2.2.2.2.lookup 60 = some (.ireturn, 1) := by decide +kernel
theorem q162_0 : z_m162.2.2.2.2.2.lookup 0 = some (.aload_n 0, 1) := by decide +kernel
theorem q162_1 : z_m162.2.2.2.2.2.lookup 1 = some (.bipush 40, 2) := by decide +kernel
theorem q162_3 : z_m162.2.2.2.2.2.lookup 3 = some (.invokevirtual 191, 3) := by decide +kernel
theorem q162_6 : z_m162.2.2.2.2.2.lookup 6 = some (.ifCond .ne 24, 3) := by decide +kernel
theorem q162_9 : z_m162.2.2.2.2.2.lookup 9 = some (.aload_n 0, 1) := by decide +kernel
theorem q162_10 : z_m162.2.2.2.2.2.lookup 10 = some (.bipush 45, 2) := by decide +kernel
theorem q162_12 : z_m162.2.2.2.2.2.lookup 12 = some (.invokevirtual 191, 3) := by decide +kernel
theorem q162_15 : z_m162.2.2.2.2.2.lookup 15 = some (.ifCond .ne 15, 3) := by decide +kernel
theorem q162_18 : z_m162.2.2.2.2.2.lookup 18 = some (.iload_n 1, 1) := by decide +kernel
theorem q162_19 : z_m162.2.2.2.2.2.lookup 19 = some (.ifCond .eq 15, 3) := by decide +kernel
theorem q162_22 : z_m162.2.2.2.2.2.lookup 22 = some (.aload_n 0, 1) := by decide +kernel
theorem q162_23 : z_m162.2.2.2.2.2.lookup 23 = some (.iconst 5, 1) := by decide +kernel
theorem q162_24 : z_m162.2.2.2.2.2.lookup 24 = some (.invokevirtual 194, 3) := by decide +kernel
theorem q162_27 : z_m162.2.2.2.2.2.lookup 27 = some (.ifCond .eq 7, 3) := by decide +kernel
theorem q162_30 : z_m162.2.2.2.2.2.lookup 30 = some (.iconst 1, 1) := by decide +kernel
theorem q162_31 : z_m162.2.2.2.2.2.lookup 31 = some (.goto 4, 3) := by decide +kernel
theorem q162_34 : z_m162.2.2.2.2.2.lookup 34 = some (.iconst 0, 1) := by decide +kernel
theorem q162_35 : z_m162.2.2.2.2.2.lookup 35 = some (.istore_n 2, 1) := by decide +kernel
theorem q162_36 : z_m162.2.2.2.2.2.lookup 36 = some (.iload_n 2, 1) := by decide +kernel
theorem q162_37 : z_m162.2.2.2.2.2.lookup 37 = some (.ifCond .eq 11, 3) := by decide +kernel
theorem q162_40 : z_m162.2.2.2.2.2.lookup 40 = some (.aload_n 0, 1) := by decide +kernel
theorem q162_41 : z_m162.2.2.2.2.2.lookup 41 = some (.getfield 184, 3) := by decide +kernel
theorem q162_44 : z_m162.2.2.2.2.2.lookup 44 = some (.iconst 5, 1) := by decide +kernel
theorem q162_45 : z_m162.2.2.2.2.2.lookup 45 = some (.if_icmp .ne 5, 3) := by decide +kernel
theorem q162_48 : z_m162.2.2.2.2.2.lookup 48 = some (.iconst 0, 1) := by decide +kernel
theorem q162_49 : z_m162.2.2.2.2.2.lookup 49 = some (.ireturn, 1) := by decide +kernel
theorem q162_50 : z_m162.2.2.2.2.2.lookup 50 = some (.aload_n 0, 1) := by decide +kernel
theorem q162_51 : z_m162.2.2.2.2.2.lookup 51 = some (.dup, 1) := by decide +kernel
theorem q162_52 : z_m162.2.2.2.2.2.lookup 52 = some (.getfield 184, 3) := by decide +kernel
theorem q162_55 : z_m162.2.2.2.2.2.lookup 55 = some (.iconst 1, 1) := by decide +kernel
theorem q162_56 : z_m162.2.2.2.2.2.lookup 56 = some (.iadd, 1) := by decide +kernel
theorem q162_57 : z_m162.2.2.2.2.2.lookup 57 = some (.putfield 184, 3) := by decide +kernel
theorem q162_60 : z_m162.2.2.2.2.2.lookup 60 = some (.aload_n 0, 1) := by decide +kernel
theorem q162_61 : z_m162.2.2.2.2.2.lookup 61 = some (.bipush 40, 2) := by decide +kernel
theorem q162_63 : z_m162.2.2.2.2.2.lookup 63 = some (.invokevirtual 191, 3) := by decide +kernel
theorem q162_66 : z_m162.2.2.2.2.2.lookup 66 = some (.ifCond .eq 32, 3) := by decide +kernel
theorem q162_69 : z_m162.2.2.2.2.2.lookup 69 = some (.aload_n 0, 1) := by decide +kernel
theorem q162_70 : z_m162.2.2.2.2.2.lookup 70 = some (.bipush 15, 2) := by decide +kernel
theorem q162_72 : z_m162.2.2.2.2.2.lookup 72 = some (.invokevirtual 206, 3) := by decide +kernel
theorem q162_75 : z_m162.2.2.2.2.2.lookup 75 = some (.aload_n 0, 1) := by decide +kernel
theorem q162_76 : z_m162.2.2.2.2.2.lookup 76 = some (.dup, 1) := by decide +kernel
theorem q162_77 : z_m162.2.2.2.2.2.lookup 77 = some (.getfield 200, 3) := by decide +kernel
theorem q162_80 : z_m162.2.2.2.2.2.lookup 80 = some (.iconst 1, 1) := by decide +kernel
theorem q162_81 : z_m162.2.2.2.2.2.lookup 81 = some (.iadd, 1) := by decide +kernel
theorem q162_82 : z_m162.2.2.2.2.2.lookup 82 = some (.putfield 200, 3) := by decide +kernel
theorem q162_85 : z_m162.2.2.2.2.2.lookup 85 = some (.aload_n 0, 1) := by decide +kernel
theorem q162_86 : z_m162.2.2.2.2.2.lookup 86 = some (.getfield 197, 3) := by decide +kernel
theorem q162_89 : z_m162.2.2.2.2.2.lookup 89 = some (.aload_n 0, 1) := by decide +kernel
theorem q162_90 : z_m162.2.2.2.2.2.lookup 90 = some (.getfield 200, 3) := by decide +kernel
theorem q162_93 : z_m162.2.2.2.2.2.lookup 93 = some (.iconst 0, 1) := by decide +kernel
theorem q162_94 : z_m162.2.2.2.2.2.lookup 94 = some (.bastore, 1) := by decide +kernel
theorem q162_95 : z_m162.2.2.2.2.2.lookup 95 = some (.goto 22, 3) := by decide +kernel
theorem q162_98 : z_m162.2.2.2.2.2.lookup 98 = some (.aload_n 0, 1) := by decide +kernel
theorem q162_99 : z_m162.2.2.2.2.2.lookup 99 = some (.aload_n 0, 1) := by decide +kernel
theorem q162_100 : z_m162.2.2.2.2.2.lookup 100 = some (.getfield 140, 3) := by decide +kernel
theorem q162_103 : z_m162.2.2.2.2.2.lookup 103 = some (.iconst 4, 1) := by decide +kernel
theorem q162_104 : z_m162.2.2.2.2.2.lookup 104 = some (.if_icmp .ne 8, 3) := by decide +kernel
theorem q162_107 : z_m162.2.2.2.2.2.lookup 107 = some (.bipush 13, 2) := by decide +kernel
theorem q162_109 : z_m162.2.2.2.2.2.lookup 109 = some (.goto 5, 3) := by decide +kernel
theorem q162_112 : z_m162.2.2.2.2.2.lookup 112 = some (.bipush 14, 2) := by decide +kernel
theorem q162_114 : z_m162.2.2.2.2.2.lookup 114 = some (.invokevirtual 206, 3) := by decide +kernel
theorem q162_117 : z_m162.2.2.2.2.2.lookup 117 = some (.iconst 1, 1) := by decide +kernel
theorem q162_118 : z_m162.2.2.2.2.2.lookup 118 = some (.ireturn, 1) := by decide +kernel
theorem q163_0 : z_m163.2.2.2.2.2.lookup 0 = some (.aload_n 0, 1) := by decide +kernel
theorem q163_1 : z_m163.2.2.2.2.2.lookup 1 = some (.sipush 160, 3) := by decide +kernel
theorem q163_4 : z_m163.2.2.2.2.2.lookup 4 = some (.iload_n 1, 1) := by decide +kernel
theorem q163_5 : z_m163.2.2.2.2.2.lookup 5 = some (.imul, 1) := by decide +kernel
theorem q163_6 : z_m163.2.2.2.2.2.lookup 6 = some (.putfield 169, 3) := by decide +kernel
theorem q163_9 : z_m163.2.2.2.2.2.lookup 9 = some (.aload_n 0, 1) := by decide +kernel
theorem q163_10 : z_m163.2.2.2.2.2.lookup 10 = some (.iconst 0, 1) := by decide +kernel
theorem q163_11 : z_m163.2.2.2.2.2.lookup 11 = some (.putfield 172, 3) := by decide +kernel
theorem q163_14 : z_m163.2.2.2.2.2.lookup 14 = some (.aload_n 0, 1) := by decide +kernel
theorem q163_15 : z_m163.2.2.2.2.2.lookup 15 = some (.iconst 0, 1) := by decide +kernel
theorem q163_16 : z_m163.2.2.2.2.2.lookup 16 = some (.putfield 175, 3) := by decide +kernel
theorem q163_19 : z_m163.2.2.2.2.2.lookup 19 = some (.aload_n 0, 1) := by decide +kernel
theorem q163_20 : z_m163.2.2.2.2.2.lookup 20 = some (.iconst 0, 1) := by decide +kernel
theorem q163_21 : z_m163.2.2.2.2.2.lookup 21 = some (.putfield 184, 3) := by decide +kernel
theorem q163_24 : z_m163.2.2.2.2.2.lookup 24 = some (.aload_n 0, 1) := by decide +kernel
theorem q163_25 : z_m163.2.2.2.2.2.lookup 25 = some (.iconst 0, 1) := by decide +kernel
theorem q163_26 : z_m163.2.2.2.2.2.lookup 26 = some (.putfield 200, 3) := by decide +kernel
theorem q163_29 : z_m163.2.2.2.2.2.lookup 29 = some (.aload_n 0, 1) := by decide +kernel
theorem q163_30 : z_m163.2.2.2.2.2.lookup 30 = some (.getfield 197, 3) := by decide +kernel
theorem q163_33 : z_m163.2.2.2.2.2.lookup 33 = some (.iconst 0, 1) := by decide +kernel
theorem q163_34 : z_m163.2.2.2.2.2.lookup 34 = some (.iconst 0, 1) := by decide +kernel
theorem q163_35 : z_m163.2.2.2.2.2.lookup 35 = some (.bastore, 1) := by decide +kernel
theorem q163_36 : z_m163.2.2.2.2.2.lookup 36 = some (.iconst 1, 1) := by decide +kernel
theorem q163_37 : z_m163.2.2.2.2.2.lookup 37 = some (.istore_n 2, 1) := by decide +kernel
theorem q163_38 : z_m163.2.2.2.2.2.lookup 38 = some (.iconst 1, 1) := by decide +kernel
theorem q163_39 : z_m163.2.2.2.2.2.lookup 39 = some (.istore_n 3, 1) := by decide +kernel
theorem q163_40 : z_m163.2.2.2.2.2.lookup 40 = some (.iload_n 2, 1) := by decide +kernel
theorem q163_41 : z_m163.2.2.2.2.2.lookup 41 = some (.ifCond .eq 55, 3) := by decide +kernel
theorem q163_44 : z_m163.2.2.2.2.2.lookup 44 = some (.aload_n 0, 1) := by decide +kernel
theorem q163_45 : z_m163.2.2.2.2.2.lookup 45 = some (.getfield 140, 3) := by decide +kernel
theorem q163_48 : z_m163.2.2.2.2.2.lookup 48 = some (.iconst 1, 1) := by decide +kernel
theorem q163_49 : z_m163.2.2.2.2.2.lookup 49 = some (.if_icmp .eq 11, 3) := by decide +kernel
theorem q163_52 : z_m163.2.2.2.2.2.lookup 52 = some (.aload_n 0, 1) := by decide +kernel
theorem q163_53 : z_m163.2.2.2.2.2.lookup 53 = some (.getfield 140, 3) := by decide +kernel
theorem q163_56 : z_m163.2.2.2.2.2.lookup 56 = some (.iconst 2, 1) := by decide +kernel
theorem q163_57 : z_m163.2.2.2.2.2.lookup 57 = some (.if_icmp .ne 39, 3) := by decide +kernel
theorem q163_60 : z_m163.2.2.2.2.2.lookup 60 = some (.aload_n 0, 1) := by decide +kernel
theorem q163_61 : z_m163.2.2.2.2.2.lookup 61 = some (.aload_n 0, 1) := by decide +kernel
theorem q163_62 : z_m163.2.2.2.2.2.lookup 62 = some (.getfield 140, 3) := by decide +kernel
theorem q163_65 : z_m163.2.2.2.2.2.lookup 65 = some (.iconst 1, 1) := by decide +kernel
theorem q163_66 : z_m163.2.2.2.2.2.lookup 66 = some (.if_icmp .ne 12, 3) := by decide +kernel
theorem q163_69 : z_m163.2.2.2.2.2.lookup 69 = some (.iconst (-1), 1) := by decide +kernel
theorem q163_70 : z_m163.2.2.2.2.2.lookup 70 = some (.aload_n 0, 1) := by decide +kernel
theorem q163_71 : z_m163.2.2.2.2.2.lookup 71 = some (.getfield 153, 3) := by decide +kernel
theorem q163_74 : z_m163.2.2.2.2.2.lookup 74 = some (.isub, 1) := by decide +kernel
theorem q163_75 : z_m163.2.2.2.2.2.lookup 75 = some (.goto 7, 3) := by decide +kernel
theorem q163_78 : z_m163.2.2.2.2.2.lookup 78 = some (.aload_n 0, 1) := by decide +kernel
theorem q163_79 : z_m163.2.2.2.2.2.lookup 79 = some (.getfield 153, 3) := by decide +kernel
theorem q163_82 : z_m163.2.2.2.2.2.lookup 82 = some (.invokevirtual 187, 3) := by decide +kernel
theorem q163_85 : z_m163.2.2.2.2.2.lookup 85 = some (.aload_n 0, 1) := by decide +kernel
theorem q163_86 : z_m163.2.2.2.2.2.lookup 86 = some (.bipush 7, 2) := by decide +kernel
theorem q163_88 : z_m163.2.2.2.2.2.lookup 88 = some (.invokevirtual 203, 3) := by decide +kernel
theorem q163_91 : z_m163.2.2.2.2.2.lookup 91 = some (.iconst 0, 1) := by decide +kernel
theorem q163_92 : z_m163.2.2.2.2.2.lookup 92 = some (.istore_n 2, 1) := by decide +kernel
theorem q163_93 : z_m163.2.2.2.2.2.lookup 93 = some (.goto 115, 3) := by decide +kernel
theorem q163_96 : z_m163.2.2.2.2.2.lookup 96 = some (.iload_n 2, 1) := by decide +kernel
theorem q163_97 : z_m163.2.2.2.2.2.lookup 97 = some (.ifCond .eq 35, 3) := by decide +kernel
theorem q163_100 : z_m163.2.2.2.2.2.lookup 100 = some (.aload_n 0, 1) := by decide +kernel
theorem q163_101 : z_m163.2.2.2.2.2.lookup 101 = some (.bipush 45, 2) := by decide +kernel
theorem q163_103 : z_m163.2.2.2.2.2.lookup 103 = some (.invokevirtual 191, 3) := by decide +kernel
theorem q163_106 : z_m163.2.2.2.2.2.lookup 106 = some (.istore 4, 2) := by decide +kernel
theorem q163_108 : z_m163.2.2.2.2.2.lookup 108 = some (.aload_n 0, 1) := by decide +kernel
theorem q163_109 : z_m163.2.2.2.2.2.lookup 109 = some (.iload_n 3, 1) := by decide +kernel
theorem q163_110 : z_m163.2.2.2.2.2.lookup 110 = some (.invokevirtual 209, 3) := by decide +kernel
theorem q163_113 : z_m163.2.2.2.2.2.lookup 113 = some (.ifCond .ne 5, 3) := by decide +kernel
theorem q163_116 : z_m163.2.2.2.2.2.lookup 116 = some (.iconst 0, 1) := by decide +kernel
theorem q163_117 : z_m163.2.2.2.2.2.lookup 117 = some (.ireturn, 1) := by decide +kernel
theorem q163_118 : z_m163.2.2.2.2.2.lookup 118 = some (.iload 4, 2) := by decide +kernel
theorem q163_120 : z_m163.2.2.2.2.2.lookup 120 = some (.ifCond .ne 7, 3) := by decide +kernel
theorem q163_123 : z_m163.2.2.2.2.2.lookup 123 = some (.iconst 1, 1) := by decide +kernel
theorem q163_124 : z_m163.2.2.2.2.2.lookup 124 = some (.goto 4, 3) := by decide +kernel
theorem q163_127 : z_m163.2.2.2.2.2.lookup 127 = some (.iconst 0, 1) := by decide +kernel
theorem q163_128 : z_m163.2.2.2.2.2.lookup 128 = some (.istore_n 3, 1) := by decide +kernel
theorem q163_129 : z_m163.2.2.2.2.2.lookup 129 = some (.goto 79, 3) := by decide +kernel
theorem q163_132 : z_m163.2.2.2.2.2.lookup 132 = some (.aload_n 0, 1) := by decide +kernel
theorem q163_133 : z_m163.2.2.2.2.2.lookup 133 = some (.bipush 59, 2) := by decide +kernel
theorem q163_135 : z_m163.2.2.2.2.2.lookup 135 = some (.invokevirtual 191, 3) := by decide +kernel
theorem q163_138 : z_m163.2.2.2.2.2.lookup 138 = some (.ifCond .eq 27, 3) := by decide +kernel
theorem q163_141 : z_m163.2.2.2.2.2.lookup 141 = some (.aload_n 0, 1) := by decide +kernel
theorem q163_142 : z_m163.2.2.2.2.2.lookup 142 = some (.getfield 200, 3) := by decide +kernel
theorem q163_145 : z_m163.2.2.2.2.2.lookup 145 = some (.ifCond .ne 20, 3) := by decide +kernel
theorem q163_148 : z_m163.2.2.2.2.2.lookup 148 = some (.aload_n 0, 1) := by decide +kernel
theorem q163_149 : z_m163.2.2.2.2.2.lookup 149 = some (.iconst 1, 1) := by decide +kernel
theorem q163_150 : z_m163.2.2.2.2.2.lookup 150 = some (.invokevirtual 203, 3) := by decide +kernel
theorem q163_153 : z_m163.2.2.2.2.2.lookup 153 = some (.aload_n 0, 1) := by decide +kernel
theorem q163_154 : z_m163.2.2.2.2.2.lookup 154 = some (.getfield 213, 3) := by decide +kernel
theorem q163_157 : z_m163.2.2.2.2.2.lookup 157 = some (.iload_n 1, 1) := by decide +kernel
theorem q163_158 : z_m163.2.2.2.2.2.lookup 158 = some (.aload_n 0, 1) := by decide +kernel
theorem q163_159 : z_m163.2.2.2.2.2.lookup 159 = some (.getfield 172, 3) := by decide +kernel
theorem q163_162 : z_m163.2.2.2.2.2.lookup 162 = some (.iastore, 1) := by decide +kernel
theorem q163_163 : z_m163.2.2.2.2.2.lookup 163 = some (.iconst 1, 1) := by decide +kernel
theorem q163_164 : z_m163.2.2.2.2.2.lookup 164 = some (.ireturn, 1) := by decide +kernel
theorem q163_165 : z_m163.2.2.2.2.2.lookup 165 = some (.aload_n 0, 1) := by decide +kernel
theorem q163_166 : z_m163.2.2.2.2.2.lookup 166 = some (.invokevirtual 216, 3) := by decide +kernel
theorem q163_169 : z_m163.2.2.2.2.2.lookup 169 = some (.ifCond .eq 30, 3) := by decide +kernel
theorem q163_172 : z_m163.2.2.2.2.2.lookup 172 = some (.iconst 1, 1) := by decide +kernel
theorem q163_173 : z_m163.2.2.2.2.2.lookup 173 = some (.istore_n 2, 1) := by decide +kernel
theorem q163_174 : z_m163.2.2.2.2.2.lookup 174 = some (.aload_n 0, 1) := by decide +kernel
theorem q163_175 : z_m163.2.2.2.2.2.lookup 175 = some (.iconst 4, 1) := by decide +kernel
theorem q163_176 : z_m163.2.2.2.2.2.lookup 176 = some (.invokevirtual 194, 3) := by decide +kernel
theorem q163_179 : z_m163.2.2.2.2.2.lookup 179 = some (.ifCond .ne 11, 3) := by decide +kernel
theorem q163_182 : z_m163.2.2.2.2.2.lookup 182 = some (.aload_n 0, 1) := by decide +kernel
theorem q163_183 : z_m163.2.2.2.2.2.lookup 183 = some (.iconst 3, 1) := by decide +kernel
theorem q163_184 : z_m163.2.2.2.2.2.lookup 184 = some (.invokevirtual 194, 3) := by decide +kernel
theorem q163_187 : z_m163.2.2.2.2.2.lookup 187 = some (.ifCond .eq 7, 3) := by decide +kernel
theorem q163_190 : z_m163.2.2.2.2.2.lookup 190 = some (.iconst 1, 1) := by decide +kernel
theorem q163_191 : z_m163.2.2.2.2.2.lookup 191 = some (.goto 4, 3) := by decide +kernel
theorem q163_194 : z_m163.2.2.2.2.2.lookup 194 = some (.iconst 0, 1) := by decide +kernel
theorem q163_195 : z_m163.2.2.2.2.2.lookup 195 = some (.istore_n 3, 1) := by decide +kernel
theorem q163_196 : z_m163.2.2.2.2.2.lookup 196 = some (.goto 12, 3) := by decide +kernel
theorem q163_199 : z_m163.2.2.2.2.2.lookup 199 = some (.aload_n 0, 1) := by decide +kernel
theorem q163_200 : z_m163.2.2.2.2.2.lookup 200 = some (.invokevirtual 220, 3) := by decide +kernel
theorem q163_203 : z_m163.2.2.2.2.2.lookup 203 = some (.ifCond .ne 5, 3) := by decide +kernel
theorem q163_206 : z_m163.2.2.2.2.2.lookup 206 = some (.iconst 0, 1) := by decide +kernel
theorem q163_207 : z_m163.2.2.2.2.2.lookup 207 = some (.ireturn, 1) := by decide +kernel
theorem q163_208 : z_m163.2.2.2.2.2.lookup 208 = some (.aload_n 0, 1) := by decide +kernel
theorem q163_209 : z_m163.2.2.2.2.2.lookup 209 = some (.invokevirtual 223, 3) := by decide +kernel
theorem q163_212 : z_m163.2.2.2.2.2.lookup 212 = some (.goto (-172), 3) := by decide +kernel
theorem q164_0 : z_m164.2.2.2.2.2.lookup 0 = some (.aload_n 0, 1) := by decide +kernel
theorem q164_1 : z_m164.2.2.2.2.2.lookup 1 = some (.iconst 0, 1) := by decide +kernel
theorem q164_2 : z_m164.2.2.2.2.2.lookup 2 = some (.putfield 134, 3) := by decide +kernel
theorem q164_5 : z_m164.2.2.2.2.2.lookup 5 = some (.iconst 0, 1) := by decide +kernel
theorem q164_6 : z_m164.2.2.2.2.2.lookup 6 = some (.istore_n 2, 1) := by decide +kernel
theorem q164_7 : z_m164.2.2.2.2.2.lookup 7 = some (.iload_n 2, 1) := by decide +kernel
theorem q164_8 : z_m164.2.2.2.2.2.lookup 8 = some (.iconst 3, 1) := by decide +kernel
theorem q164_9 : z_m164.2.2.2.2.2.lookup 9 = some (.if_icmp .ge 47, 3) := by decide +kernel
theorem q164_12 : z_m164.2.2.2.2.2.lookup 12 = some (.aload_n 0, 1) := by decide +kernel
theorem q164_13 : z_m164.2.2.2.2.2.lookup 13 = some (.invokevirtual 223, 3) := by decide +kernel
theorem q164_16 : z_m164.2.2.2.2.2.lookup 16 = some (.aload_n 0, 1) := by decide +kernel
theorem q164_17 : z_m164.2.2.2.2.2.lookup 17 = some (.iload_n 2, 1) := by decide +kernel
theorem q164_18 : z_m164.2.2.2.2.2.lookup 18 = some (.invokevirtual 194, 3) := by decide +kernel
theorem q164_21 : z_m164.2.2.2.2.2.lookup 21 = some (.ifCond .ne 8, 3) := by decide +kernel
theorem q164_24 : z_m164.2.2.2.2.2.lookup 24 = some (.aload_n 0, 1) := by decide +kernel
theorem q164_25 : z_m164.2.2.2.2.2.lookup 25 = some (.getfield 146, 3) := by decide +kernel
theorem q164_28 : z_m164.2.2.2.2.2.lookup 28 = some (.ireturn, 1) := by decide +kernel
theorem q164_29 : z_m164.2.2.2.2.2.lookup 29 = some (.aload_n 0, 1) := by decide +kernel
theorem q164_30 : z_m164.2.2.2.2.2.lookup 30 = some (.invokevirtual 223, 3) := by decide +kernel
theorem q164_33 : z_m164.2.2.2.2.2.lookup 33 = some (.aload_n 0, 1) := by decide +kernel
theorem q164_34 : z_m164.2.2.2.2.2.lookup 34 = some (.iconst 3, 1) := by decide +kernel
theorem q164_35 : z_m164.2.2.2.2.2.lookup 35 = some (.iload_n 1, 1) := by decide +kernel
theorem q164_36 : z_m164.2.2.2.2.2.lookup 36 = some (.imul, 1) := by decide +kernel
theorem q164_37 : z_m164.2.2.2.2.2.lookup 37 = some (.iload_n 2, 1) := by decide +kernel
theorem q164_38 : z_m164.2.2.2.2.2.lookup 38 = some (.iadd, 1) := by decide +kernel
theorem q164_39 : z_m164.2.2.2.2.2.lookup 39 = some (.invokevirtual 226, 3) := by decide +kernel
theorem q164_42 : z_m164.2.2.2.2.2.lookup 42 = some (.ifCond .ne 8, 3) := by decide +kernel
theorem q164_45 : z_m164.2.2.2.2.2.lookup 45 = some (.aload_n 0, 1) := by decide +kernel
theorem q164_46 : z_m164.2.2.2.2.2.lookup 46 = some (.getfield 146, 3) := by decide +kernel
theorem q164_49 : z_m164.2.2.2.2.2.lookup 49 = some (.ireturn, 1) := by decide +kernel
theorem q164_50 : z_m164.2.2.2.2.2.lookup 50 = some (.iinc 2 1, 3) := by decide +kernel
theorem q164_53 : z_m164.2.2.2.2.2.lookup 53 = some (.goto (-46), 3) := by decide +kernel
theorem q164_56 : z_m164.2.2.2.2.2.lookup 56 = some (.aload_n 0, 1) := by decide +kernel
theorem q164_57 : z_m164.2.2.2.2.2.lookup 57 = some (.invokevirtual 223, 3) := by decide +kernel
theorem q164_60 : z_m164.2.2.2.2.2.lookup 60 = some (.aload_n 0, 1) := by decide +kernel
theorem q164_61 : z_m164.2.2.2.2.2.lookup 61 = some (.getfield 140, 3) := by decide +kernel
theorem q164_64 : z_m164.2.2.2.2.2.lookup 64 = some (.ifCond .ne 7, 3) := by decide +kernel
theorem q164_67 : z_m164.2.2.2.2.2.lookup 67 = some (.iconst (-1), 1) := by decide +kernel
theorem q164_68 : z_m164.2.2.2.2.2.lookup 68 = some (.goto 7, 3) := by decide +kernel
theorem q164_71 : z_m164.2.2.2.2.2.lookup 71 = some (.aload_n 0, 1) := by decide +kernel
theorem q164_72 : z_m164.2.2.2.2.2.lookup 72 = some (.getfield 146, 3) := by decide +kernel
theorem q164_75 : z_m164.2.2.2.2.2.lookup 75 = some (.ireturn, 1) := by decide +kernel
theorem q165_0 : z_m165.2.2.2.2.2.lookup 0 = some (.aload_n 0, 1) := by decide +kernel
theorem q165_1 : z_m165.2.2.2.2.2.lookup 1 = some (.getfield 229, 3) := by decide +kernel
theorem q165_4 : z_m165.2.2.2.2.2.lookup 4 = some (.bipush 6, 2) := by decide +kernel
theorem q165_6 : z_m165.2.2.2.2.2.lookup 6 = some (.if_icmp .ne 6, 3) := by decide +kernel
theorem q165_9 : z_m165.2.2.2.2.2.lookup 9 = some (.bipush (-4), 2) := by decide +kernel
theorem q165_11 : z_m165.2.2.2.2.2.lookup 11 = some (.ireturn, 1) := by decide +kernel
theorem q165_12 : z_m165.2.2.2.2.2.lookup 12 = some (.aload_n 0, 1) := by decide +kernel
theorem q165_13 : z_m165.2.2.2.2.2.lookup 13 = some (.aload_n 0, 1) := by decide +kernel
theorem q165_14 : z_m165.2.2.2.2.2.lookup 14 = some (.getfield 229, 3) := by decide +kernel
theorem q165_17 : z_m165.2.2.2.2.2.lookup 17 = some (.invokevirtual 232, 3) := by decide +kernel
theorem q165_20 : z_m165.2.2.2.2.2.lookup 20 = some (.istore_n 1, 1) := by decide +kernel
theorem q165_21 : z_m165.2.2.2.2.2.lookup 21 = some (.aload_n 0, 1) := by decide +kernel
theorem q165_22 : z_m165.2.2.2.2.2.lookup 22 = some (.iconst 0, 1) := by decide +kernel
theorem q165_23 : z_m165.2.2.2.2.2.lookup 23 = some (.putfield 127, 3) := by decide +kernel
theorem q165_26 : z_m165.2.2.2.2.2.lookup 26 = some (.iload_n 1, 1) := by decide +kernel
theorem q165_27 : z_m165.2.2.2.2.2.lookup 27 = some (.iconst (-1), 1) := by decide +kernel
theorem q165_28 : z_m165.2.2.2.2.2.lookup 28 = some (.if_icmp .eq 8, 3) := by decide +kernel
theorem q165_31 : z_m165.2.2.2.2.2.lookup 31 = some (.bipush (-100), 2) := by decide +kernel
theorem q165_33 : z_m165.2.2.2.2.2.lookup 33 = some (.iload_n 1, 1) := by decide +kernel
theorem q165_34 : z_m165.2.2.2.2.2.lookup 34 = some (.isub, 1) := by decide +kernel
theorem q165_35 : z_m165.2.2.2.2.2.lookup 35 = some (.ireturn, 1) := by decide +kernel
theorem q165_36 : z_m165.2.2.2.2.2.lookup 36 = some (.aload_n 0, 1) := by decide +kernel
theorem q165_37 : z_m165.2.2.2.2.2.lookup 37 = some (.dup, 1) := by decide +kernel
theorem q165_38 : z_m165.2.2.2.2.2.lookup 38 = some (.getfield 229, 3) := by decide +kernel
theorem q165_41 : z_m165.2.2.2.2.2.lookup 41 = some (.iconst 1, 1) := by decide +kernel
theorem q165_42 : z_m165.2.2.2.2.2.lookup 42 = some (.iadd, 1) := by decide +kernel
theorem q165_43 : z_m165.2.2.2.2.2.lookup 43 = some (.putfield 229, 3) := by decide +kernel
theorem q165_46 : z_m165.2.2.2.2.2.lookup 46 = some (.aload_n 0, 1) := by decide +kernel
theorem q165_47 : z_m165.2.2.2.2.2.lookup 47 = some (.getfield 229, 3) := by decide +kernel
theorem q165_50 : z_m165.2.2.2.2.2.lookup 50 = some (.iconst 1, 1) := by decide +kernel
theorem q165_51 : z_m165.2.2.2.2.2.lookup 51 = some (.isub, 1) := by decide +kernel
theorem q165_52 : z_m165.2.2.2.2.2.lookup 52 = some (.ireturn, 1) := by decide +kernel
theorem q166_0 : z_m166.2.2.2.2.2.lookup 0 = some (.iload_n 1, 1) := by decide +kernel
theorem q166_1 : z_m166.2.2.2.2.2.lookup 1 = some (.tableswitch 80 0 4 #[35, 42, 49, 56, 63], 35) := by decide +kernel
theorem q166_36 : z_m166.2.2.2.2.2.lookup 36 = some (.aload_n 0, 1) := by decide +kernel
theorem q166_37 : z_m166.2.2.2.2.2.lookup 37 = some (.getfield 45, 3) := by decide +kernel
theorem q166_40 : z_m166.2.2.2.2.2.lookup 40 = some (.iload_n 2, 1) := by decide +kernel
theorem q166_41 : z_m166.2.2.2.2.2.lookup 41 = some (.iaload, 1) := by decide +kernel
theorem q166_42 : z_m166.2.2.2.2.2.lookup 42 = some (.ireturn, 1) := by decide +kernel
theorem q166_43 : z_m166.2.2.2.2.2.lookup 43 = some (.aload_n 0, 1) := by decide +kernel
theorem q166_44 : z_m166.2.2.2.2.2.lookup 44 = some (.getfield 54, 3) := by decide +kernel
theorem q166_47 : z_m166.2.2.2.2.2.lookup 47 = some (.iload_n 2, 1) := by decide +kernel
theorem q166_48 : z_m166.2.2.2.2.2.lookup 48 = some (.iaload, 1) := by decide +kernel
theorem q166_49 : z_m166.2.2.2.2.2.lookup 49 = some (.ireturn, 1) := by decide +kernel
theorem q166_50 : z_m166.2.2.2.2.2.lookup 50 = some (.aload_n 0, 1) := by decide +kernel
theorem q166_51 : z_m166.2.2.2.2.2.lookup 51 = some (.getfield 48, 3) := by decide +kernel
theorem q166_54 : z_m166.2.2.2.2.2.lookup 54 = some (.iload_n 2, 1) := by decide +kernel
theorem q166_55 : z_m166.2.2.2.2.2.lookup 55 = some (.iaload, 1) := by decide +kernel
theorem q166_56 : z_m166.2.2.2.2.2.lookup 56 = some (.ireturn, 1) := by decide +kernel
theorem q166_57 : z_m166.2.2.2.2.2.lookup 57 = some (.aload_n 0, 1) := by decide +kernel
theorem q166_58 : z_m166.2.2.2.2.2.lookup 58 = some (.getfield 35, 3) := by decide +kernel
theorem q166_61 : z_m166.2.2.2.2.2.lookup 61 = some (.iload_n 2, 1) := by decide +kernel
theorem q166_62 : z_m166.2.2.2.2.2.lookup 62 = some (.iaload, 1) := by decide +kernel
theorem q166_63 : z_m166.2.2.2.2.2.lookup 63 = some (.ireturn, 1) := by decide +kernel
theorem q166_64 : z_m166.2.2.2.2.2.lookup 64 = some (.aload_n 0, 1) := by decide +kernel
theorem q166_65 : z_m166.2.2.2.2.2.lookup 65 = some (.aload_n 0, 1) := by decide +kernel
theorem q166_66 : z_m166.2.2.2.2.2.lookup 66 = some (.getfield 39, 3) := by decide +kernel
theorem q166_69 : z_m166.2.2.2.2.2.lookup 69 = some (.iload_n 2, 1) := by decide +kernel
theorem q166_70 : z_m166.2.2.2.2.2.lookup 70 = some (.iaload, 1) := by decide +kernel
theorem q166_71 : z_m166.2.2.2.2.2.lookup 71 = some (.aload_n 0, 1) := by decide +kernel
theorem q166_72 : z_m166.2.2.2.2.2.lookup 72 = some (.getfield 54, 3) := by decide +kernel
theorem q166_75 : z_m166.2.2.2.2.2.lookup 75 = some (.iload_n 2, 1) := by decide +kernel
theorem q166_76 : z_m166.2.2.2.2.2.lookup 76 = some (.iaload, 1) := by decide +kernel
theorem q166_77 : z_m166.2.2.2.2.2.lookup 77 = some (.invokevirtual 235, 3) := by decide +kernel
theorem q166_80 : z_m166.2.2.2.2.2.lookup 80 = some (.ireturn, 1) := by decide +kernel
theorem q166_81 : z_m166.2.2.2.2.2.lookup 81 = some (.aload_n 0, 1) := by decide +kernel
theorem q166_82 : z_m166.2.2.2.2.2.lookup 82 = some (.iconst 0, 1) := by decide +kernel
theorem q166_83 : z_m166.2.2.2.2.2.lookup 83 = some (.aload_n 0, 1) := by decide +kernel
theorem q166_84 : z_m166.2.2.2.2.2.lookup 84 = some (.getfield 54, 3) := by decide +kernel
theorem q166_87 : z_m166.2.2.2.2.2.lookup 87 = some (.iload_n 2, 1) := by decide +kernel
theorem q166_88 : z_m166.2.2.2.2.2.lookup 88 = some (.iaload, 1) := by decide +kernel
theorem q166_89 : z_m166.2.2.2.2.2.lookup 89 = some (.aload_n 0, 1) := by decide +kernel
theorem q166_90 : z_m166.2.2.2.2.2.lookup 90 = some (.getfield 9, 3) := by decide +kernel
theorem q166_93 : z_m166.2.2.2.2.2.lookup 93 = some (.invokevirtual 99, 3) := by decide +kernel
theorem q166_96 : z_m166.2.2.2.2.2.lookup 96 = some (.ireturn, 1) := by decide +kernel
theorem q167_0 : z_m167.2.2.2.2.2.lookup 0 = some (.iload_n 0, 1) := by decide +kernel
theorem q167_1 : z_m167.2.2.2.2.2.lookup 1 = some (.tableswitch 87 6 11 #[39, 43, 47, 51, 62, 73], 39) := by decide +kernel
theorem q167_40 : z_m167.2.2.2.2.2.lookup 40 = some (.iload_n 1, 1) := by decide +kernel
theorem q167_41 : z_m167.2.2.2.2.2.lookup 41 = some (.iload_n 2, 1) := by decide +kernel
theorem q167_42 : z_m167.2.2.2.2.2.lookup 42 = some (.iadd, 1) := by decide +kernel
theorem q167_43 : z_m167.2.2.2.2.2.lookup 43 = some (.ireturn, 1) := by decide +kernel
theorem q167_44 : z_m167.2.2.2.2.2.lookup 44 = some (.iload_n 1, 1) := by decide +kernel
theorem q167_45 : z_m167.2.2.2.2.2.lookup 45 = some (.iload_n 2, 1) := by decide +kernel
theorem q167_46 : z_m167.2.2.2.2.2.lookup 46 = some (.isub, 1) := by decide +kernel
theorem q167_47 : z_m167.2.2.2.2.2.lookup 47 = some (.ireturn, 1) := by decide +kernel
theorem q167_48 : z_m167.2.2.2.2.2.lookup 48 = some (.iload_n 1, 1) := by decide +kernel
theorem q167_49 : z_m167.2.2.2.2.2.lookup 49 = some (.iload_n 2, 1) := by decide +kernel
theorem q167_50 : z_m167.2.2.2.2.2.lookup 50 = some (.imul, 1) := by decide +kernel
theorem q167_51 : z_m167.2.2.2.2.2.lookup 51 = some (.ireturn, 1) := by decide +kernel
theorem q167_52 : z_m167.2.2.2.2.2.lookup 52 = some (.iload_n 1, 1) := by decide +kernel
theorem q167_53 : z_m167.2.2.2.2.2.lookup 53 = some (.iload_n 2, 1) := by decide +kernel
theorem q167_54 : z_m167.2.2.2.2.2.lookup 54 = some (.if_icmp .ge 7, 3) := by decide +kernel
theorem q167_57 : z_m167.2.2.2.2.2.lookup 57 = some (.iconst 1, 1) := by decide +kernel
theorem q167_58 : z_m167.2.2.2.2.2.lookup 58 = some (.goto 4, 3) := by decide +kernel
theorem q167_61 : z_m167.2.2.2.2.2.lookup 61 = some (.iconst 0, 1) := by decide +kernel
theorem q167_62 : z_m167.2.2.2.2.2.lookup 62 = some (.ireturn, 1) := by decide +kernel
theorem q167_63 : z_m167.2.2.2.2.2.lookup 63 = some (.iload_n 1, 1) := by decide +kernel
theorem q167_64 : z_m167.2.2.2.2.2.lookup 64 = some (.iload_n 2, 1) := by decide +kernel
theorem q167_65 : z_m167.2.2.2.2.2.lookup 65 = some (.if_icmp .ne 7, 3) := by decide +kernel
theorem q167_68 : z_m167.2.2.2.2.2.lookup 68 = some (.iconst 1, 1) := by decide +kernel
theorem q167_69 : z_m167.2.2.2.2.2.lookup 69 = some (.goto 4, 3) := by decide +kernel
theorem q167_72 : z_m167.2.2.2.2.2.lookup 72 = some (.iconst 0, 1) := by decide +kernel
theorem q167_73 : z_m167.2.2.2.2.2.lookup 73 = some (.ireturn, 1) := by decide +kernel
theorem q167_74 : z_m167.2.2.2.2.2.lookup 74 = some (.iload_n 1, 1) := by decide +kernel
theorem q167_75 : z_m167.2.2.2.2.2.lookup 75 = some (.ifCond .eq 11, 3) := by decide +kernel
theorem q167_78 : z_m167.2.2.2.2.2.lookup 78 = some (.iload_n 2, 1) := by decide +kernel
theorem q167_79 : z_m167.2.2.2.2.2.lookup 79 = some (.ifCond .eq 7, 3) := by decide +kernel
theorem q167_82 : z_m167.2.2.2.2.2.lookup 82 = some (.iconst 1, 1) := by decide +kernel
theorem q167_83 : z_m167.2.2.2.2.2.lookup 83 = some (.goto 4, 3) := by decide +kernel
theorem q167_86 : z_m167.2.2.2.2.2.lookup 86 = some (.iconst 0, 1) := by decide +kernel
theorem q167_87 : z_m167.2.2.2.2.2.lookup 87 = some (.ireturn, 1) := by decide +kernel
theorem q167_88 : z_m167.2.2.2.2.2.lookup 88 = some (.iload_n 1, 1) := by decide +kernel
theorem q167_89 : z_m167.2.2.2.2.2.lookup 89 = some (.ifCond .ne 7, 3) := by decide +kernel
theorem q167_92 : z_m167.2.2.2.2.2.lookup 92 = some (.iload_n 2, 1) := by decide +kernel
theorem q167_93 : z_m167.2.2.2.2.2.lookup 93 = some (.ifCond .eq 7, 3) := by decide +kernel
theorem q167_96 : z_m167.2.2.2.2.2.lookup 96 = some (.iconst 1, 1) := by decide +kernel
theorem q167_97 : z_m167.2.2.2.2.2.lookup 97 = some (.goto 4, 3) := by decide +kernel
theorem q167_100 : z_m167.2.2.2.2.2.lookup 100 = some (.iconst 0, 1) := by decide +kernel
theorem q167_101 : z_m167.2.2.2.2.2.lookup 101 = some (.ireturn, 1) := by decide +kernel
theorem q168_0 : z_m168.2.2.2.2.2.lookup 0 = some (.iconst 3, 1) := by decide +kernel
theorem q168_1 : z_m168.2.2.2.2.2.lookup 1 = some (.aload_n 0, 1) := by decide +kernel
theorem q168_2 : z_m168.2.2.2.2.2.lookup 2 = some (.aload_n 0, 1) := by decide +kernel
theorem q168_3 : z_m168.2.2.2.2.2.lookup 3 = some (.getfield 39, 3) := by decide +kernel
theorem q168_6 : z_m168.2.2.2.2.2.lookup 6 = some (.iload_n 2, 1) := by decide +kernel
theorem q168_7 : z_m168.2.2.2.2.2.lookup 7 = some (.iaload, 1) := by decide +kernel
theorem q168_8 : z_m168.2.2.2.2.2.lookup 8 = some (.aload_n 0, 1) := by decide +kernel
theorem q168_9 : z_m168.2.2.2.2.2.lookup 9 = some (.getfield 54, 3) := by decide +kernel
theorem q168_12 : z_m168.2.2.2.2.2.lookup 12 = some (.iload_n 2, 1) := by decide +kernel
theorem q168_13 : z_m168.2.2.2.2.2.lookup 13 = some (.iaload, 1) := by decide +kernel
theorem q168_14 : z_m168.2.2.2.2.2.lookup 14 = some (.invokevirtual 239, 3) := by decide +kernel
theorem q168_17 : z_m168.2.2.2.2.2.lookup 17 = some (.imul, 1) := by decide +kernel
theorem q168_18 : z_m168.2.2.2.2.2.lookup 18 = some (.iload_n 1, 1) := by decide +kernel
theorem q168_19 : z_m168.2.2.2.2.2.lookup 19 = some (.iadd, 1) := by decide +kernel
theorem q168_20 : z_m168.2.2.2.2.2.lookup 20 = some (.istore_n 3, 1) := by decide +kernel
theorem q168_21 : z_m168.2.2.2.2.2.lookup 21 = some (.iconst 0, 1) := by decide +kernel
theorem q168_22 : z_m168.2.2.2.2.2.lookup 22 = some (.istore 4, 2) := by decide +kernel
theorem q168_24 : z_m168.2.2.2.2.2.lookup 24 = some (.iconst 0, 1) := by decide +kernel
theorem q168_25 : z_m168.2.2.2.2.2.lookup 25 = some (.istore 5, 2) := by decide +kernel
theorem q168_27 : z_m168.2.2.2.2.2.lookup 27 = some (.iload 5, 2) := by decide +kernel
theorem q168_29 : z_m168.2.2.2.2.2.lookup 29 = some (.aload_n 0, 1) := by decide +kernel
theorem q168_30 : z_m168.2.2.2.2.2.lookup 30 = some (.getfield 213, 3) := by decide +kernel
theorem q168_33 : z_m168.2.2.2.2.2.lookup 33 = some (.iload_n 3, 1) := by decide +kernel
theorem q168_34 : z_m168.2.2.2.2.2.lookup 34 = some (.iaload, 1) := by decide +kernel
theorem q168_35 : z_m168.2.2.2.2.2.lookup 35 = some (.if_icmp .ge 171, 3) := by decide +kernel
theorem q168_38 : z_m168.2.2.2.2.2.lookup 38 = some (.aload_n 0, 1) := by decide +kernel
theorem q168_39 : z_m168.2.2.2.2.2.lookup 39 = some (.getfield 166, 3) := by decide +kernel
theorem q168_42 : z_m168.2.2.2.2.2.lookup 42 = some (.sipush 160, 3) := by decide +kernel
theorem q168_45 : z_m168.2.2.2.2.2.lookup 45 = some (.iload_n 3, 1) := by decide +kernel
theorem q168_46 : z_m168.2.2.2.2.2.lookup 46 = some (.imul, 1) := by decide +kernel
theorem q168_47 : z_m168.2.2.2.2.2.lookup 47 = some (.iload 5, 2) := by decide +kernel
theorem q168_49 : z_m168.2.2.2.2.2.lookup 49 = some (.iadd, 1) := by decide +kernel
theorem q168_50 : z_m168.2.2.2.2.2.lookup 50 = some (.iaload, 1) := by decide +kernel
theorem q168_51 : z_m168.2.2.2.2.2.lookup 51 = some (.istore 6, 2) := by decide +kernel
theorem q168_53 : z_m168.2.2.2.2.2.lookup 53 = some (.iload 6, 2) := by decide +kernel
theorem q168_55 : z_m168.2.2.2.2.2.lookup 55 = some (.ifCond .ge 20, 3) := by decide +kernel
theorem q168_58 : z_m168.2.2.2.2.2.lookup 58 = some (.aload_n 0, 1) := by decide +kernel
theorem q168_59 : z_m168.2.2.2.2.2.lookup 59 = some (.getfield 242, 3) := by decide +kernel
theorem q168_62 : z_m168.2.2.2.2.2.lookup 62 = some (.iload 4, 2) := by decide +kernel
theorem q168_64 : z_m168.2.2.2.2.2.lookup 64 = some (.iconst (-1), 1) := by decide +kernel
theorem q168_65 : z_m168.2.2.2.2.2.lookup 65 = some (.iload 6, 2) := by decide +kernel
theorem q168_67 : z_m168.2.2.2.2.2.lookup 67 = some (.isub, 1) := by decide +kernel
theorem q168_68 : z_m168.2.2.2.2.2.lookup 68 = some (.iastore, 1) := by decide +kernel
theorem q168_69 : z_m168.2.2.2.2.2.lookup 69 = some (.iinc 4 1, 3) := by decide +kernel
theorem q168_72 : z_m168.2.2.2.2.2.lookup 72 = some (.goto 128, 3) := by decide +kernel
theorem q168_75 : z_m168.2.2.2.2.2.lookup 75 = some (.iload 6, 2) := by decide +kernel
theorem q168_77 : z_m168.2.2.2.2.2.lookup 77 = some (.bipush 6, 2) := by decide +kernel
theorem q168_79 : z_m168.2.2.2.2.2.lookup 79 = some (.if_icmp .ge 23, 3) := by decide +kernel
theorem q168_82 : z_m168.2.2.2.2.2.lookup 82 = some (.aload_n 0, 1) := by decide +kernel
theorem q168_83 : z_m168.2.2.2.2.2.lookup 83 = some (.getfield 242, 3) := by decide +kernel
theorem q168_86 : z_m168.2.2.2.2.2.lookup 86 = some (.iload 4, 2) := by decide +kernel
theorem q168_88 : z_m168.2.2.2.2.2.lookup 88 = some (.aload_n 0, 1) := by decide +kernel
theorem q168_89 : z_m168.2.2.2.2.2.lookup 89 = some (.iload 6, 2) := by decide +kernel
theorem q168_91 : z_m168.2.2.2.2.2.lookup 91 = some (.iload_n 2, 1) := by decide +kernel
theorem q168_92 : z_m168.2.2.2.2.2.lookup 92 = some (.invokevirtual 245, 3) := by decide +kernel
theorem q168_95 : z_m168.2.2.2.2.2.lookup 95 = some (.iastore, 1) := by decide +kernel
theorem q168_96 : z_m168.2.2.2.2.2.lookup 96 = some (.iinc 4 1, 3) := by decide +kernel
theorem q168_99 : z_m168.2.2.2.2.2.lookup 99 = some (.goto 101, 3) := by decide +kernel
theorem q168_102 : z_m168.2.2.2.2.2.lookup 102 = some (.iload 6, 2) := by decide +kernel
theorem q168_104 : z_m168.2.2.2.2.2.lookup 104 = some (.bipush 13, 2) := by decide +kernel
theorem q168_106 : z_m168.2.2.2.2.2.lookup 106 = some (.if_icmp .ne 32, 3) := by decide +kernel
theorem q168_109 : z_m168.2.2.2.2.2.lookup 109 = some (.aload_n 0, 1) := by decide +kernel
theorem q168_110 : z_m168.2.2.2.2.2.lookup 110 = some (.getfield 242, 3) := by decide +kernel
theorem q168_113 : z_m168.2.2.2.2.2.lookup 113 = some (.iload 4, 2) := by decide +kernel
theorem q168_115 : z_m168.2.2.2.2.2.lookup 115 = some (.iconst 1, 1) := by decide +kernel
theorem q168_116 : z_m168.2.2.2.2.2.lookup 116 = some (.isub, 1) := by decide +kernel
theorem q168_117 : z_m168.2.2.2.2.2.lookup 117 = some (.aload_n 0, 1) := by decide +kernel
theorem q168_118 : z_m168.2.2.2.2.2.lookup 118 = some (.getfield 242, 3) := by decide +kernel
theorem q168_121 : z_m168.2.2.2.2.2.lookup 121 = some (.iload 4, 2) := by decide +kernel
theorem q168_123 : z_m168.2.2.2.2.2.lookup 123 = some (.iconst 1, 1) := by decide +kernel
theorem q168_124 : z_m168.2.2.2.2.2.lookup 124 = some (.isub, 1) := by decide +kernel
theorem q168_125 : z_m168.2.2.2.2.2.lookup 125 = some (.iaload, 1) := by decide +kernel
theorem q168_126 : z_m168.2.2.2.2.2.lookup 126 = some (.ifCond .ne 7, 3) := by decide +kernel
theorem q168_129 : z_m168.2.2.2.2.2.lookup 129 = some (.iconst 1, 1) := by decide +kernel
theorem q168_130 : z_m168.2.2.2.2.2.lookup 130 = some (.goto 4, 3) := by decide +kernel
theorem q168_133 : z_m168.2.2.2.2.2.lookup 133 = some (.iconst 0, 1) := by decide +kernel
theorem q168_134 : z_m168.2.2.2.2.2.lookup 134 = some (.iastore, 1) := by decide +kernel
theorem q168_135 : z_m168.2.2.2.2.2.lookup 135 = some (.goto 65, 3) := by decide +kernel
theorem q168_138 : z_m168.2.2.2.2.2.lookup 138 = some (.iload 6, 2) := by decide +kernel
theorem q168_140 : z_m168.2.2.2.2.2.lookup 140 = some (.bipush 14, 2) := by decide +kernel
theorem q168_142 : z_m168.2.2.2.2.2.lookup 142 = some (.if_icmp .ne 25, 3) := by decide +kernel
theorem q168_145 : z_m168.2.2.2.2.2.lookup 145 = some (.aload_n 0, 1) := by decide +kernel
theorem q168_146 : z_m168.2.2.2.2.2.lookup 146 = some (.getfield 242, 3) := by decide +kernel
theorem q168_149 : z_m168.2.2.2.2.2.lookup 149 = some (.iload 4, 2) := by decide +kernel
theorem q168_151 : z_m168.2.2.2.2.2.lookup 151 = some (.iconst 1, 1) := by decide +kernel
theorem q168_152 : z_m168.2.2.2.2.2.lookup 152 = some (.isub, 1) := by decide +kernel
theorem q168_153 : z_m168.2.2.2.2.2.lookup 153 = some (.aload_n 0, 1) := by decide +kernel
theorem q168_154 : z_m168.2.2.2.2.2.lookup 154 = some (.getfield 242, 3) := by decide +kernel
theorem q168_157 : z_m168.2.2.2.2.2.lookup 157 = some (.iload 4, 2) := by decide +kernel
theorem q168_159 : z_m168.2.2.2.2.2.lookup 159 = some (.iconst 1, 1) := by decide +kernel
theorem q168_160 : z_m168.2.2.2.2.2.lookup 160 = some (.isub, 1) := by decide +kernel
theorem q168_161 : z_m168.2.2.2.2.2.lookup 161 = some (.iaload, 1) := by decide +kernel
theorem q168_162 : z_m168.2.2.2.2.2.lookup 162 = some (.ineg, 1) := by decide +kernel
theorem q168_163 : z_m168.2.2.2.2.2.lookup 163 = some (.iastore, 1) := by decide +kernel
theorem q168_164 : z_m168.2.2.2.2.2.lookup 164 = some (.goto 36, 3) := by decide +kernel
theorem q168_167 : z_m168.2.2.2.2.2.lookup 167 = some (.iinc 4 (-1), 3) := by decide +kernel
theorem q168_170 : z_m168.2.2.2.2.2.lookup 170 = some (.aload_n 0, 1) := by decide +kernel
theorem q168_171 : z_m168.2.2.2.2.2.lookup 171 = some (.getfield 242, 3) := by decide +kernel
theorem q168_174 : z_m168.2.2.2.2.2.lookup 174 = some (.iload 4, 2) := by decide +kernel
theorem q168_176 : z_m168.2.2.2.2.2.lookup 176 = some (.iconst 1, 1) := by decide +kernel
theorem q168_177 : z_m168.2.2.2.2.2.lookup 177 = some (.isub, 1) := by decide +kernel
theorem q168_178 : z_m168.2.2.2.2.2.lookup 178 = some (.iload 6, 2) := by decide +kernel
theorem q168_180 : z_m168.2.2.2.2.2.lookup 180 = some (.aload_n 0, 1) := by decide +kernel
theorem q168_181 : z_m168.2.2.2.2.2.lookup 181 = some (.getfield 242, 3) := by decide +kernel
theorem q168_184 : z_m168.2.2.2.2.2.lookup 184 = some (.iload 4, 2) := by decide +kernel
theorem q168_186 : z_m168.2.2.2.2.2.lookup 186 = some (.iconst 1, 1) := by decide +kernel
theorem q168_187 : z_m168.2.2.2.2.2.lookup 187 = some (.isub, 1) := by decide +kernel
theorem q168_188 : z_m168.2.2.2.2.2.lookup 188 = some (.iaload, 1) := by decide +kernel
theorem q168_189 : z_m168.2.2.2.2.2.lookup 189 = some (.aload_n 0, 1) := by decide +kernel
theorem q168_190 : z_m168.2.2.2.2.2.lookup 190 = some (.getfield 242, 3) := by decide +kernel
theorem q168_193 : z_m168.2.2.2.2.2.lookup 193 = some (.iload 4, 2) := by decide +kernel
theorem q168_195 : z_m168.2.2.2.2.2.lookup 195 = some (.iaload, 1) := by decide +kernel
theorem q168_196 : z_m168.2.2.2.2.2.lookup 196 = some (.invokestatic 248, 3) := by decide +kernel
theorem q168_199 : z_m168.2.2.2.2.2.lookup 199 = some (.iastore, 1) := by decide +kernel
theorem q168_200 : z_m168.2.2.2.2.2.lookup 200 = some (.iinc 5 1, 3) := by decide +kernel
theorem q168_203 : z_m168.2.2.2.2.2.lookup 203 = some (.goto (-176), 3) := by decide +kernel
theorem q168_206 : z_m168.2.2.2.2.2.lookup 206 = some (.aload_n 0, 1) := by decide +kernel
theorem q168_207 : z_m168.2.2.2.2.2.lookup 207 = some (.getfield 242, 3) := by decide +kernel
theorem q168_210 : z_m168.2.2.2.2.2.lookup 210 = some (.iconst 0, 1) := by decide +kernel
theorem q168_211 : z_m168.2.2.2.2.2.lookup 211 = some (.iaload, 1) := by decide +kernel
theorem q168_212 : z_m168.2.2.2.2.2.lookup 212 = some (.ireturn, 1) := by decide +kernel
