theorem q71_0 : z_m71.2.2.2.2.2.lookup 0 = some (.aload_n 1, 1) := by decide +kernel
theorem q71_1 : z_m71.2.2.2.2.2.lookup 1 = some (.invokevirtual 41, 3) := by decide +kernel
theorem q71_4 : z_m71.2.2.2.2.2.lookup 4 = some (.aload_n 0, 1) := by decide +kernel
theorem q71_5 : z_m71.2.2.2.2.2.lookup 5 = some (.aload_n 1, 1) := by decide +kernel
theorem q71_6 : z_m71.2.2.2.2.2.lookup 6 = some (.iload_n 2, 1) := by decide +kernel
theorem q71_7 : z_m71.2.2.2.2.2.lookup 7 = some (.invokevirtual 31, 3) := by decide +kernel
theorem q71_10 : z_m71.2.2.2.2.2.lookup 10 = some (.ifCond .eq 16, 3) := by decide +kernel
theorem q71_13 : z_m71.2.2.2.2.2.lookup 13 = some (.aload_n 1, 1) := by decide +kernel
theorem q71_14 : z_m71.2.2.2.2.2.lookup 14 = some (.bipush 41, 2) := by decide +kernel
theorem q71_16 : z_m71.2.2.2.2.2.lookup 16 = some (.invokevirtual 27, 3) := by decide +kernel
theorem q71_19 : z_m71.2.2.2.2.2.lookup 19 = some (.ifCond .eq 7, 3) := by decide +kernel
theorem q71_22 : z_m71.2.2.2.2.2.lookup 22 = some (.iconst 1, 1) := by decide +kernel
theorem q71_23 : z_m71.2.2.2.2.2.lookup 23 = some (.goto 4, 3) := by decide +kernel
theorem q71_26 : z_m71.2.2.2.2.2.lookup 26 = some (.iconst 0, 1) := by decide +kernel
theorem q71_27 : z_m71.2.2.2.2.2.lookup 27 = some (.ireturn, 1) := by decide +kernel
theorem q72_0 : z_m72.2.2.2.2.2.lookup 0 = some (.iconst 0, 1) := by decide +kernel
theorem q72_1 : z_m72.2.2.2.2.2.lookup 1 = some (.istore 4, 2) := by decide +kernel
theorem q72_3 : z_m72.2.2.2.2.2.lookup 3 = some (.iload_n 1, 1) := by decide +kernel
theorem q72_4 : z_m72.2.2.2.2.2.lookup 4 = some (.ifCond .ne 7, 3) := by decide +kernel
theorem q72_7 : z_m72.2.2.2.2.2.lookup 7 = some (.iconst 0, 1) := by decide +kernel
theorem q72_8 : z_m72.2.2.2.2.2.lookup 8 = some (.goto 11, 3) := by decide +kernel
theorem q72_11 : z_m72.2.2.2.2.2.lookup 11 = some (.aload_n 0, 1) := by decide +kernel
theorem q72_12 : z_m72.2.2.2.2.2.lookup 12 = some (.getfield 15, 3) := by decide +kernel
theorem q72_15 : z_m72.2.2.2.2.2.lookup 15 = some (.iload_n 1, 1) := by decide +kernel
theorem q72_16 : z_m72.2.2.2.2.2.lookup 16 = some (.iconst 1, 1) := by decide +kernel
theorem q72_17 : z_m72.2.2.2.2.2.lookup 17 = some (.isub, 1) := by decide +kernel
theorem q72_18 : z_m72.2.2.2.2.2.lookup 18 = some (.iaload, 1) := by decide +kernel
theorem q72_19 : z_m72.2.2.2.2.2.lookup 19 = some (.istore 5, 2) := by decide +kernel
theorem q72_21 : z_m72.2.2.2.2.2.lookup 21 = some (.iload 5, 2) := by decide +kernel
theorem q72_23 : z_m72.2.2.2.2.2.lookup 23 = some (.aload_n 0, 1) := by decide +kernel
theorem q72_24 : z_m72.2.2.2.2.2.lookup 24 = some (.getfield 15, 3) := by decide +kernel
theorem q72_27 : z_m72.2.2.2.2.2.lookup 27 = some (.iload_n 1, 1) := by decide +kernel
theorem q72_28 : z_m72.2.2.2.2.2.lookup 28 = some (.iaload, 1) := by decide +kernel
theorem q72_29 : z_m72.2.2.2.2.2.lookup 29 = some (.if_icmp .ge 161, 3) := by decide +kernel
theorem q72_32 : z_m72.2.2.2.2.2.lookup 32 = some (.aload_n 0, 1) := by decide +kernel
theorem q72_33 : z_m72.2.2.2.2.2.lookup 33 = some (.getfield 9, 3) := by decide +kernel
theorem q72_36 : z_m72.2.2.2.2.2.lookup 36 = some (.iload 5, 2) := by decide +kernel
theorem q72_38 : z_m72.2.2.2.2.2.lookup 38 = some (.iaload, 1) := by decide +kernel
theorem q72_39 : z_m72.2.2.2.2.2.lookup 39 = some (.istore 6, 2) := by decide +kernel
theorem q72_41 : z_m72.2.2.2.2.2.lookup 41 = some (.iload 6, 2) := by decide +kernel
theorem q72_43 : z_m72.2.2.2.2.2.lookup 43 = some (.ifCond .ge 10, 3) := by decide +kernel
theorem q72_46 : z_m72.2.2.2.2.2.lookup 46 = some (.iload 6, 2) := by decide +kernel
theorem q72_48 : z_m72.2.2.2.2.2.lookup 48 = some (.bipush (-10), 2) := by decide +kernel
theorem q72_50 : z_m72.2.2.2.2.2.lookup 50 = some (.if_icmp .gt 39, 3) := by decide +kernel
theorem q72_53 : z_m72.2.2.2.2.2.lookup 53 = some (.iload 4, 2) := by decide +kernel
theorem q72_55 : z_m72.2.2.2.2.2.lookup 55 = some (.aload_n 3, 1) := by decide +kernel
theorem q72_56 : z_m72.2.2.2.2.2.lookup 56 = some (.arraylength, 1) := by decide +kernel
theorem q72_57 : z_m72.2.2.2.2.2.lookup 57 = some (.if_icmp .lt 5, 3) := by decide +kernel
theorem q72_60 : z_m72.2.2.2.2.2.lookup 60 = some (.iconst 0, 1) := by decide +kernel
theorem q72_61 : z_m72.2.2.2.2.2.lookup 61 = some (.ireturn, 1) := by decide +kernel
theorem q72_62 : z_m72.2.2.2.2.2.lookup 62 = some (.aload_n 3, 1) := by decide +kernel
theorem q72_63 : z_m72.2.2.2.2.2.lookup 63 = some (.iload 4, 2) := by decide +kernel
theorem q72_65 : z_m72.2.2.2.2.2.lookup 65 = some (.iload 6, 2) := by decide +kernel
theorem q72_67 : z_m72.2.2.2.2.2.lookup 67 = some (.ifCond .lt 8, 3) := by decide +kernel
theorem q72_70 : z_m72.2.2.2.2.2.lookup 70 = some (.iload 6, 2) := by decide +kernel
theorem q72_72 : z_m72.2.2.2.2.2.lookup 72 = some (.goto 10, 3) := by decide +kernel
theorem q72_75 : z_m72.2.2.2.2.2.lookup 75 = some (.aload_n 2, 1) := by decide +kernel
theorem q72_76 : z_m72.2.2.2.2.2.lookup 76 = some (.bipush (-10), 2) := by decide +kernel
theorem q72_78 : z_m72.2.2.2.2.2.lookup 78 = some (.iload 6, 2) := by decide +kernel
theorem q72_80 : z_m72.2.2.2.2.2.lookup 80 = some (.isub, 1) := by decide +kernel
theorem q72_81 : z_m72.2.2.2.2.2.lookup 81 = some (.iaload, 1) := by decide +kernel
theorem q72_82 : z_m72.2.2.2.2.2.lookup 82 = some (.iastore, 1) := by decide +kernel
theorem q72_83 : z_m72.2.2.2.2.2.lookup 83 = some (.iinc 4 1, 3) := by decide +kernel
theorem q72_86 : z_m72.2.2.2.2.2.lookup 86 = some (.goto 98, 3) := by decide +kernel
theorem q72_89 : z_m72.2.2.2.2.2.lookup 89 = some (.iload 6, 2) := by decide +kernel
theorem q72_91 : z_m72.2.2.2.2.2.lookup 91 = some (.iconst (-1), 1) := by decide +kernel
theorem q72_92 : z_m72.2.2.2.2.2.lookup 92 = some (.if_icmp .eq 10, 3) := by decide +kernel
theorem q72_95 : z_m72.2.2.2.2.2.lookup 95 = some (.iload 6, 2) := by decide +kernel
theorem q72_97 : z_m72.2.2.2.2.2.lookup 97 = some (.bipush (-2), 2) := by decide +kernel
theorem q72_99 : z_m72.2.2.2.2.2.lookup 99 = some (.if_icmp .ne 53, 3) := by decide +kernel
theorem q72_102 : z_m72.2.2.2.2.2.lookup 102 = some (.iload 4, 2) := by decide +kernel
theorem q72_104 : z_m72.2.2.2.2.2.lookup 104 = some (.iconst 1, 1) := by decide +kernel
theorem q72_105 : z_m72.2.2.2.2.2.lookup 105 = some (.if_icmp .ge 5, 3) := by decide +kernel
theorem q72_108 : z_m72.2.2.2.2.2.lookup 108 = some (.iconst 0, 1) := by decide +kernel
theorem q72_109 : z_m72.2.2.2.2.2.lookup 109 = some (.ireturn, 1) := by decide +kernel
theorem q72_110 : z_m72.2.2.2.2.2.lookup 110 = some (.aload_n 3, 1) := by decide +kernel
theorem q72_111 : z_m72.2.2.2.2.2.lookup 111 = some (.iload 4, 2) := by decide +kernel
theorem q72_113 : z_m72.2.2.2.2.2.lookup 113 = some (.iconst 1, 1) := by decide +kernel
theorem q72_114 : z_m72.2.2.2.2.2.lookup 114 = some (.isub, 1) := by decide +kernel
theorem q72_115 : z_m72.2.2.2.2.2.lookup 115 = some (.iload 6, 2) := by decide +kernel
theorem q72_117 : z_m72.2.2.2.2.2.lookup 117 = some (.iconst (-1), 1) := by decide +kernel
theorem q72_118 : z_m72.2.2.2.2.2.lookup 118 = some (.if_icmp .ne 13, 3) := by decide +kernel
theorem q72_121 : z_m72.2.2.2.2.2.lookup 121 = some (.aload_n 3, 1) := by decide +kernel
theorem q72_122 : z_m72.2.2.2.2.2.lookup 122 = some (.iload 4, 2) := by decide +kernel
theorem q72_124 : z_m72.2.2.2.2.2.lookup 124 = some (.iconst 1, 1) := by decide +kernel
theorem q72_125 : z_m72.2.2.2.2.2.lookup 125 = some (.isub, 1) := by decide +kernel
theorem q72_126 : z_m72.2.2.2.2.2.lookup 126 = some (.iaload, 1) := by decide +kernel
theorem q72_127 : z_m72.2.2.2.2.2.lookup 127 = some (.ineg, 1) := by decide +kernel
theorem q72_128 : z_m72.2.2.2.2.2.lookup 128 = some (.goto 20, 3) := by decide +kernel
theorem q72_131 : z_m72.2.2.2.2.2.lookup 131 = some (.aload_n 3, 1) := by decide +kernel
theorem q72_132 : z_m72.2.2.2.2.2.lookup 132 = some (.iload 4, 2) := by decide +kernel
theorem q72_134 : z_m72.2.2.2.2.2.lookup 134 = some (.iconst 1, 1) := by decide +kernel
theorem q72_135 : z_m72.2.2.2.2.2.lookup 135 = some (.isub, 1) := by decide +kernel
theorem q72_136 : z_m72.2.2.2.2.2.lookup 136 = some (.iaload, 1) := by decide +kernel
theorem q72_137 : z_m72.2.2.2.2.2.lookup 137 = some (.ifCond .ne 7, 3) := by decide +kernel
theorem q72_140 : z_m72.2.2.2.2.2.lookup 140 = some (.iconst 1, 1) := by decide +kernel
theorem q72_141 : z_m72.2.2.2.2.2.lookup 141 = some (.goto 4, 3) := by decide +kernel
theorem q72_144 : z_m72.2.2.2.2.2.lookup 144 = some (.iconst 0, 1) := by decide +kernel
theorem q72_145 : z_m72.2.2.2.2.2.lookup 145 = some (.invokestatic 72, 3) := by decide +kernel
theorem q72_148 : z_m72.2.2.2.2.2.lookup 148 = some (.iastore, 1) := by decide +kernel
theorem q72_149 : z_m72.2.2.2.2.2.lookup 149 = some (.goto 35, 3) := by decide +kernel
theorem q72_152 : z_m72.2.2.2.2.2.lookup 152 = some (.iload 4, 2) := by decide +kernel
theorem q72_154 : z_m72.2.2.2.2.2.lookup 154 = some (.iconst 2, 1) := by decide +kernel
theorem q72_155 : z_m72.2.2.2.2.2.lookup 155 = some (.if_icmp .ge 5, 3) := by decide +kernel
theorem q72_158 : z_m72.2.2.2.2.2.lookup 158 = some (.iconst 0, 1) := by decide +kernel
theorem q72_159 : z_m72.2.2.2.2.2.lookup 159 = some (.ireturn, 1) := by decide +kernel
theorem q72_160 : z_m72.2.2.2.2.2.lookup 160 = some (.iinc 4 (-1), 3) := by decide +kernel
theorem q72_163 : z_m72.2.2.2.2.2.lookup 163 = some (.aload_n 3, 1) := by decide +kernel
theorem q72_164 : z_m72.2.2.2.2.2.lookup 164 = some (.iload 4, 2) := by decide +kernel
theorem q72_166 : z_m72.2.2.2.2.2.lookup 166 = some (.iconst 1, 1) := by decide +kernel
theorem q72_167 : z_m72.2.2.2.2.2.lookup 167 = some (.isub, 1) := by decide +kernel
theorem q72_168 : z_m72.2.2.2.2.2.lookup 168 = some (.iload 6, 2) := by decide +kernel
theorem q72_170 : z_m72.2.2.2.2.2.lookup 170 = some (.aload_n 3, 1) := by decide +kernel
theorem q72_171 : z_m72.2.2.2.2.2.lookup 171 = some (.iload 4, 2) := by decide +kernel
theorem q72_173 : z_m72.2.2.2.2.2.lookup 173 = some (.iconst 1, 1) := by decide +kernel
theorem q72_174 : z_m72.2.2.2.2.2.lookup 174 = some (.isub, 1) := by decide +kernel
theorem q72_175 : z_m72.2.2.2.2.2.lookup 175 = some (.iaload, 1) := by decide +kernel
theorem q72_176 : z_m72.2.2.2.2.2.lookup 176 = some (.aload_n 3, 1) := by decide +kernel
theorem q72_177 : z_m72.2.2.2.2.2.lookup 177 = some (.iload 4, 2) := by decide +kernel
theorem q72_179 : z_m72.2.2.2.2.2.lookup 179 = some (.iaload, 1) := by decide +kernel
theorem q72_180 : z_m72.2.2.2.2.2.lookup 180 = some (.invokestatic 76, 3) := by decide +kernel
theorem q72_183 : z_m72.2.2.2.2.2.lookup 183 = some (.iastore, 1) := by decide +kernel
theorem q72_184 : z_m72.2.2.2.2.2.lookup 184 = some (.iinc 5 1, 3) := by decide +kernel
theorem q72_187 : z_m72.2.2.2.2.2.lookup 187 = some (.goto (-166), 3) := by decide +kernel
theorem q72_190 : z_m72.2.2.2.2.2.lookup 190 = some (.iload 4, 2) := by decide +kernel
theorem q72_192 : z_m72.2.2.2.2.2.lookup 192 = some (.iconst 1, 1) := by decide +kernel
theorem q72_193 : z_m72.2.2.2.2.2.lookup 193 = some (.if_icmp .ne 9, 3) := by decide +kernel
theorem q72_196 : z_m72.2.2.2.2.2.lookup 196 = some (.aload_n 3, 1) := by decide +kernel
theorem q72_197 : z_m72.2.2.2.2.2.lookup 197 = some (.iconst 0, 1) := by decide +kernel
theorem q72_198 : z_m72.2.2.2.2.2.lookup 198 = some (.iaload, 1) := by decide +kernel
theorem q72_199 : z_m72.2.2.2.2.2.lookup 199 = some (.goto 4, 3) := by decide +kernel
theorem q72_202 : z_m72.2.2.2.2.2.lookup 202 = some (.iconst 0, 1) := by decide +kernel
theorem q72_203 : z_m72.2.2.2.2.2.lookup 203 = some (.ireturn, 1) := by decide +kernel
theorem q73_0 : z_m73.2.2.2.2.2.lookup 0 = some (.iload_n 0, 1) := by decide +kernel
theorem q73_1 : z_m73.2.2.2.2.2.lookup 1 = some (.tableswitch 96 (-8) (-3) #[79, 65, 51, 47, 43, 39], 39) := by decide +kernel
theorem q73_40 : z_m73.2.2.2.2.2.lookup 40 = some (.iload_n 1, 1) := by decide +kernel
theorem q73_41 : z_m73.2.2.2.2.2.lookup 41 = some (.iload_n 2, 1) := by decide +kernel
theorem q73_42 : z_m73.2.2.2.2.2.lookup 42 = some (.iadd, 1) := by decide +kernel
theorem q73_43 : z_m73.2.2.2.2.2.lookup 43 = some (.ireturn, 1) := by decide +kernel
theorem q73_44 : z_m73.2.2.2.2.2.lookup 44 = some (.iload_n 1, 1) := by decide +kernel
theorem q73_45 : z_m73.2.2.2.2.2.lookup 45 = some (.iload_n 2, 1) := by decide +kernel
theorem q73_46 : z_m73.2.2.2.2.2.lookup 46 = some (.isub, 1) := by decide +kernel
theorem q73_47 : z_m73.2.2.2.2.2.lookup 47 = some (.ireturn, 1) := by decide +kernel
theorem q73_48 : z_m73.2.2.2.2.2.lookup 48 = some (.iload_n 1, 1) := by decide +kernel
theorem q73_49 : z_m73.2.2.2.2.2.lookup 49 = some (.iload_n 2, 1) := by decide +kernel
theorem q73_50 : z_m73.2.2.2.2.2.lookup 50 = some (.imul, 1) := by decide +kernel
theorem q73_51 : z_m73.2.2.2.2.2.lookup 51 = some (.ireturn, 1) := by decide +kernel
theorem q73_52 : z_m73.2.2.2.2.2.lookup 52 = some (.iload_n 1, 1) := by decide +kernel
theorem q73_53 : z_m73.2.2.2.2.2.lookup 53 = some (.iload_n 2, 1) := by decide +kernel
theorem q73_54 : z_m73.2.2.2.2.2.lookup 54 = some (.if_icmp .ge 7, 3) := by decide +kernel
theorem q73_57 : z_m73.2.2.2.2.2.lookup 57 = some (.iconst 1, 1) := by decide +kernel
theorem q73_58 : z_m73.2.2.2.2.2.lookup 58 = some (.goto 4, 3) := by decide +kernel
theorem q73_61 : z_m73.2.2.2.2.2.lookup 61 = some (.iconst 0, 1) := by decide +kernel
theorem q73_62 : z_m73.2.2.2.2.2.lookup 62 = some (.invokestatic 72, 3) := by decide +kernel
theorem q73_65 : z_m73.2.2.2.2.2.lookup 65 = some (.ireturn, 1) := by decide +kernel
theorem q73_66 : z_m73.2.2.2.2.2.lookup 66 = some (.iload_n 1, 1) := by decide +kernel
theorem q73_67 : z_m73.2.2.2.2.2.lookup 67 = some (.iload_n 2, 1) := by decide +kernel
theorem q73_68 : z_m73.2.2.2.2.2.lookup 68 = some (.if_icmp .ne 7, 3) := by decide +kernel
theorem q73_71 : z_m73.2.2.2.2.2.lookup 71 = some (.iconst 1, 1) := by decide +kernel
theorem q73_72 : z_m73.2.2.2.2.2.lookup 72 = some (.goto 4, 3) := by decide +kernel
theorem q73_75 : z_m73.2.2.2.2.2.lookup 75 = some (.iconst 0, 1) := by decide +kernel
theorem q73_76 : z_m73.2.2.2.2.2.lookup 76 = some (.invokestatic 72, 3) := by decide +kernel
theorem q73_79 : z_m73.2.2.2.2.2.lookup 79 = some (.ireturn, 1) := by decide +kernel
theorem q73_80 : z_m73.2.2.2.2.2.lookup 80 = some (.iload_n 1, 1) := by decide +kernel
theorem q73_81 : z_m73.2.2.2.2.2.lookup 81 = some (.ifCond .eq 11, 3) := by decide +kernel
theorem q73_84 : z_m73.2.2.2.2.2.lookup 84 = some (.iload_n 2, 1) := by decide +kernel
theorem q73_85 : z_m73.2.2.2.2.2.lookup 85 = some (.ifCond .eq 7, 3) := by decide +kernel
theorem q73_88 : z_m73.2.2.2.2.2.lookup 88 = some (.iconst 1, 1) := by decide +kernel
theorem q73_89 : z_m73.2.2.2.2.2.lookup 89 = some (.goto 4, 3) := by decide +kernel
theorem q73_92 : z_m73.2.2.2.2.2.lookup 92 = some (.iconst 0, 1) := by decide +kernel
theorem q73_93 : z_m73.2.2.2.2.2.lookup 93 = some (.invokestatic 72, 3) := by decide +kernel
theorem q73_96 : z_m73.2.2.2.2.2.lookup 96 = some (.ireturn, 1) := by decide +kernel
theorem q73_97 : z_m73.2.2.2.2.2.lookup 97 = some (.iload_n 1, 1) := by decide +kernel
theorem q73_98 : z_m73.2.2.2.2.2.lookup 98 = some (.ifCond .ne 7, 3) := by decide +kernel
theorem q73_101 : z_m73.2.2.2.2.2.lookup 101 = some (.iload_n 2, 1) := by decide +kernel
theorem q73_102 : z_m73.2.2.2.2.2.lookup 102 = some (.ifCond .eq 7, 3) := by decide +kernel
theorem q73_105 : z_m73.2.2.2.2.2.lookup 105 = some (.iconst 1, 1) := by decide +kernel
theorem q73_106 : z_m73.2.2.2.2.2.lookup 106 = some (.goto 4, 3) := by decide +kernel
theorem q73_109 : z_m73.2.2.2.2.2.lookup 109 = some (.iconst 0, 1) := by decide +kernel
theorem q73_110 : z_m73.2.2.2.2.2.lookup 110 = some (.invokestatic 72, 3) := by decide +kernel
theorem q73_113 : z_m73.2.2.2.2.2.lookup 113 = some (.ireturn, 1) := by decide +kernel
theorem q74_0 : z_m74.2.2.2.2.2.lookup 0 = some (.iload_n 0, 1) := by decide +kernel
theorem q74_1 : z_m74.2.2.2.2.2.lookup 1 = some (.ifCond .eq 7, 3) := by decide +kernel
theorem q74_4 : z_m74.2.2.2.2.2.lookup 4 = some (.iconst 1, 1) := by decide +kernel
theorem q74_5 : z_m74.2.2.2.2.2.lookup 5 = some (.goto 4, 3) := by decide +kernel
theorem q74_8 : z_m74.2.2.2.2.2.lookup 8 = some (.iconst 0, 1) := by decide +kernel
theorem q74_9 : z_m74.2.2.2.2.2.lookup 9 = some (.ireturn, 1) := by decide +kernel
theorem q76_0 : z_m76.2.2.2.2.2.lookup 0 = some (.iload_n 1, 1) := by decide +kernel
theorem q76_1 : z_m76.2.2.2.2.2.lookup 1 = some (.iconst 1, 1) := by decide +kernel
theorem q76_2 : z_m76.2.2.2.2.2.lookup 2 = some (.bipush 60, 2) := by decide +kernel
theorem q76_4 : z_m76.2.2.2.2.2.lookup 4 = some (.invokestatic 128, 3) := by decide +kernel
theorem q76_7 : z_m76.2.2.2.2.2.lookup 7 = some (.ifCond .ne 6, 3) := by decide +kernel
theorem q76_10 : z_m76.2.2.2.2.2.lookup 10 = some (.bipush (-2), 2) := by decide +kernel
theorem q76_12 : z_m76.2.2.2.2.2.lookup 12 = some (.ireturn, 1) := by decide +kernel
theorem q76_13 : z_m76.2.2.2.2.2.lookup 13 = some (.aload_n 0, 1) := by decide +kernel
theorem q76_14 : z_m76.2.2.2.2.2.lookup 14 = some (.getfield 132, 3) := by decide +kernel
theorem q76_17 : z_m76.2.2.2.2.2.lookup 17 = some (.iload_n 1, 1) := by decide +kernel
theorem q76_18 : z_m76.2.2.2.2.2.lookup 18 = some (.iadd, 1) := by decide +kernel
theorem q76_19 : z_m76.2.2.2.2.2.lookup 19 = some (.sipush 399, 3) := by decide +kernel
theorem q76_22 : z_m76.2.2.2.2.2.lookup 22 = some (.if_icmp .le 6, 3) := by decide +kernel
theorem q76_25 : z_m76.2.2.2.2.2.lookup 25 = some (.bipush (-4), 2) := by decide +kernel
theorem q76_27 : z_m76.2.2.2.2.2.lookup 27 = some (.ireturn, 1) := by decide +kernel
theorem q76_28 : z_m76.2.2.2.2.2.lookup 28 = some (.aload_n 0, 1) := by decide +kernel
theorem q76_29 : z_m76.2.2.2.2.2.lookup 29 = some (.dup, 1) := by decide +kernel
theorem q76_30 : z_m76.2.2.2.2.2.lookup 30 = some (.getfield 132, 3) := by decide +kernel
theorem q76_33 : z_m76.2.2.2.2.2.lookup 33 = some (.iload_n 1, 1) := by decide +kernel
theorem q76_34 : z_m76.2.2.2.2.2.lookup 34 = some (.iadd, 1) := by decide +kernel
theorem q76_35 : z_m76.2.2.2.2.2.lookup 35 = some (.putfield 132, 3) := by decide +kernel
theorem q76_38 : z_m76.2.2.2.2.2.lookup 38 = some (.aload_n 0, 1) := by decide +kernel
theorem q76_39 : z_m76.2.2.2.2.2.lookup 39 = some (.getfield 132, 3) := by decide +kernel
theorem q76_42 : z_m76.2.2.2.2.2.lookup 42 = some (.ireturn, 1) := by decide +kernel
theorem q77_0 : z_m77.2.2.2.2.2.lookup 0 = some (.iload_n 1, 1) := by decide +kernel
theorem q77_1 : z_m77.2.2.2.2.2.lookup 1 = some (.iconst 0, 1) := by decide +kernel
theorem q77_2 : z_m77.2.2.2.2.2.lookup 2 = some (.iconst 5, 1) := by decide +kernel
theorem q77_3 : z_m77.2.2.2.2.2.lookup 3 = some (.invokestatic 128, 3) := by decide +kernel
theorem q77_6 : z_m77.2.2.2.2.2.lookup 6 = some (.ifCond .eq 17, 3) := by decide +kernel
theorem q77_9 : z_m77.2.2.2.2.2.lookup 9 = some (.iload_n 2, 1) := by decide +kernel
theorem q77_10 : z_m77.2.2.2.2.2.lookup 10 = some (.invokestatic 135, 3) := by decide +kernel
theorem q77_13 : z_m77.2.2.2.2.2.lookup 13 = some (.ifCond .eq 10, 3) := by decide +kernel
theorem q77_16 : z_m77.2.2.2.2.2.lookup 16 = some (.iload_n 3, 1) := by decide +kernel
theorem q77_17 : z_m77.2.2.2.2.2.lookup 17 = some (.invokestatic 139, 3) := by decide +kernel
theorem q77_20 : z_m77.2.2.2.2.2.lookup 20 = some (.ifCond .ne 6, 3) := by decide +kernel
theorem q77_23 : z_m77.2.2.2.2.2.lookup 23 = some (.bipush (-2), 2) := by decide +kernel
theorem q77_25 : z_m77.2.2.2.2.2.lookup 25 = some (.ireturn, 1) := by decide +kernel
theorem q77_26 : z_m77.2.2.2.2.2.lookup 26 = some (.iload 4, 2) := by decide +kernel
theorem q77_28 : z_m77.2.2.2.2.2.lookup 28 = some (.iconst 1, 1) := by decide +kernel
theorem q77_29 : z_m77.2.2.2.2.2.lookup 29 = some (.sipush 9999, 3) := by decide +kernel
theorem q77_32 : z_m77.2.2.2.2.2.lookup 32 = some (.invokestatic 128, 3) := by decide +kernel
theorem q77_35 : z_m77.2.2.2.2.2.lookup 35 = some (.ifCond .eq 26, 3) := by decide +kernel
theorem q77_38 : z_m77.2.2.2.2.2.lookup 38 = some (.iload 5, 2) := by decide +kernel
theorem q77_40 : z_m77.2.2.2.2.2.lookup 40 = some (.iconst 0, 1) := by decide +kernel
theorem q77_41 : z_m77.2.2.2.2.2.lookup 41 = some (.bipush 90, 2) := by decide +kernel
theorem q77_43 : z_m77.2.2.2.2.2.lookup 43 = some (.invokestatic 128, 3) := by decide +kernel
theorem q77_46 : z_m77.2.2.2.2.2.lookup 46 = some (.ifCond .eq 15, 3) := by decide +kernel
theorem q77_49 : z_m77.2.2.2.2.2.lookup 49 = some (.iload 6, 2) := by decide +kernel
theorem q77_51 : z_m77.2.2.2.2.2.lookup 51 = some (.iconst 0, 1) := by decide +kernel
theorem q77_52 : z_m77.2.2.2.2.2.lookup 52 = some (.sipush 9999, 3) := by decide +kernel
theorem q77_55 : z_m77.2.2.2.2.2.lookup 55 = some (.invokestatic 128, 3) := by decide +kernel
theorem q77_58 : z_m77.2.2.2.2.2.lookup 58 = some (.ifCond .ne 6, 3) := by decide +kernel
theorem q77_61 : z_m77.2.2.2.2.2.lookup 61 = some (.bipush (-2), 2) := by decide +kernel
theorem q77_63 : z_m77.2.2.2.2.2.lookup 63 = some (.ireturn, 1) := by decide +kernel
theorem q77_64 : z_m77.2.2.2.2.2.lookup 64 = some (.aload_n 0, 1) := by decide +kernel
theorem q77_65 : z_m77.2.2.2.2.2.lookup 65 = some (.getfield 10, 3) := by decide +kernel
theorem q77_68 : z_m77.2.2.2.2.2.lookup 68 = some (.getfield 142, 3) := by decide +kernel
theorem q77_71 : z_m77.2.2.2.2.2.lookup 71 = some (.bipush 40, 2) := by decide +kernel
theorem q77_73 : z_m77.2.2.2.2.2.lookup 73 = some (.if_icmp .lt 6, 3) := by decide +kernel
theorem q77_76 : z_m77.2.2.2.2.2.lookup 76 = some (.bipush (-4), 2) := by decide +kernel
theorem q77_78 : z_m77.2.2.2.2.2.lookup 78 = some (.ireturn, 1) := by decide +kernel
theorem q77_79 : z_m77.2.2.2.2.2.lookup 79 = some (.aload_n 0, 1) := by decide +kernel
theorem q77_80 : z_m77.2.2.2.2.2.lookup 80 = some (.getfield 10, 3) := by decide +kernel
theorem q77_83 : z_m77.2.2.2.2.2.lookup 83 = some (.iload_n 1, 1) := by decide +kernel
theorem q77_84 : z_m77.2.2.2.2.2.lookup 84 = some (.iload_n 2, 1) := by decide +kernel
theorem q77_85 : z_m77.2.2.2.2.2.lookup 85 = some (.iload_n 3, 1) := by decide +kernel
theorem q77_86 : z_m77.2.2.2.2.2.lookup 86 = some (.aload_n 0, 1) := by decide +kernel
theorem q77_87 : z_m77.2.2.2.2.2.lookup 87 = some (.getfield 132, 3) := by decide +kernel
theorem q77_90 : z_m77.2.2.2.2.2.lookup 90 = some (.invokevirtual 145, 3) := by decide +kernel
theorem q77_93 : z_m77.2.2.2.2.2.lookup 93 = some (.istore 7, 2) := by decide +kernel
theorem q77_95 : z_m77.2.2.2.2.2.lookup 95 = some (.aload_n 0, 1) := by decide +kernel
theorem q77_96 : z_m77.2.2.2.2.2.lookup 96 = some (.getfield 10, 3) := by decide +kernel
theorem q77_99 : z_m77.2.2.2.2.2.lookup 99 = some (.iload 7, 2) := by decide +kernel
theorem q77_101 : z_m77.2.2.2.2.2.lookup 101 = some (.iload 4, 2) := by decide +kernel
theorem q77_103 : z_m77.2.2.2.2.2.lookup 103 = some (.iload 5, 2) := by decide +kernel
theorem q77_105 : z_m77.2.2.2.2.2.lookup 105 = some (.iload 6, 2) := by decide +kernel
theorem q77_107 : z_m77.2.2.2.2.2.lookup 107 = some (.invokevirtual 149, 3) := by decide +kernel
theorem q77_110 : z_m77.2.2.2.2.2.lookup 110 = some (.iload 7, 2) := by decide +kernel
theorem q77_112 : z_m77.2.2.2.2.2.lookup 112 = some (.ireturn, 1) := by decide +kernel
theorem q78_0 : z_m78.2.2.2.2.2.lookup 0 = some (.aload_n 0, 1) := by decide +kernel
theorem q78_1 : z_m78.2.2.2.2.2.lookup 1 = some (.getfield 10, 3) := by decide +kernel
theorem q78_4 : z_m78.2.2.2.2.2.lookup 4 = some (.iload_n 1, 1) := by decide +kernel
theorem q78_5 : z_m78.2.2.2.2.2.lookup 5 = some (.invokevirtual 153, 3) := by decide +kernel
theorem q78_8 : z_m78.2.2.2.2.2.lookup 8 = some (.ifCond .ne 6, 3) := by decide +kernel
theorem q78_11 : z_m78.2.2.2.2.2.lookup 11 = some (.bipush (-2), 2) := by decide +kernel
theorem q78_13 : z_m78.2.2.2.2.2.lookup 13 = some (.ireturn, 1) := by decide +kernel
theorem q78_14 : z_m78.2.2.2.2.2.lookup 14 = some (.iload_n 2, 1) := by decide +kernel
theorem q78_15 : z_m78.2.2.2.2.2.lookup 15 = some (.tableswitch 182 0 12 #[65, 75, 85, 95, 105, 115, 115, 115, 115, 136, 145, 154, 164], 65) := by decide +kernel
theorem q78_80 : z_m78.2.2.2.2.2.lookup 80 = some (.aload_n 0, 1) := by decide +kernel
theorem q78_81 : z_m78.2.2.2.2.2.lookup 81 = some (.getfield 10, 3) := by decide +kernel
theorem q78_84 : z_m78.2.2.2.2.2.lookup 84 = some (.getfield 156, 3) := by decide +kernel
theorem q78_87 : z_m78.2.2.2.2.2.lookup 87 = some (.iload_n 1, 1) := by decide +kernel
theorem q78_88 : z_m78.2.2.2.2.2.lookup 88 = some (.iaload, 1) := by decide +kernel
theorem q78_89 : z_m78.2.2.2.2.2.lookup 89 = some (.ireturn, 1) := by decide +kernel
theorem q78_90 : z_m78.2.2.2.2.2.lookup 90 = some (.aload_n 0, 1) := by decide +kernel
theorem q78_91 : z_m78.2.2.2.2.2.lookup 91 = some (.getfield 10, 3) := by decide +kernel
theorem q78_94 : z_m78.2.2.2.2.2.lookup 94 = some (.getfield 159, 3) := by decide +kernel
theorem q78_97 : z_m78.2.2.2.2.2.lookup 97 = some (.iload_n 1, 1) := by decide +kernel
theorem q78_98 : z_m78.2.2.2.2.2.lookup 98 = some (.iaload, 1) := by decide +kernel
theorem q78_99 : z_m78.2.2.2.2.2.lookup 99 = some (.ireturn, 1) := by decide +kernel
theorem q78_100 : z_m78.2.2.2.2.2.lookup 100 = some (.aload_n 0, 1) := by decide +kernel
theorem q78_101 : z_m78.2.2.2.2.2.lookup 101 = some (.getfield 10, 3) := by decide +kernel
theorem q78_104 : z_m78.2.2.2.2.2.lookup 104 = some (.getfield 162, 3) := by decide +kernel
theorem q78_107 : z_m78.2.2.2.2.2.lookup 107 = some (.iload_n 1, 1) := by decide +kernel
theorem q78_108 : z_m78.2.2.2.2.2.lookup 108 = some (.iaload, 1) := by decide +kernel
theorem q78_109 : z_m78.2.2.2.2.2.lookup 109 = some (.ireturn, 1) := by decide +kernel
theorem q78_110 : z_m78.2.2.2.2.2.lookup 110 = some (.aload_n 0, 1) := by decide +kernel
theorem q78_111 : z_m78.2.2.2.2.2.lookup 111 = some (.getfield 10, 3) := by decide +kernel
theorem q78_114 : z_m78.2.2.2.2.2.lookup 114 = some (.getfield 165, 3) := by decide +kernel
theorem q78_117 : z_m78.2.2.2.2.2.lookup 117 = some (.iload_n 1, 1) := by decide +kernel
theorem q78_118 : z_m78.2.2.2.2.2.lookup 118 = some (.iaload, 1) := by decide +kernel
theorem q78_119 : z_m78.2.2.2.2.2.lookup 119 = some (.ireturn, 1) := by decide +kernel
theorem q78_120 : z_m78.2.2.2.2.2.lookup 120 = some (.aload_n 0, 1) := by decide +kernel
theorem q78_121 : z_m78.2.2.2.2.2.lookup 121 = some (.getfield 10, 3) := by decide +kernel
theorem q78_124 : z_m78.2.2.2.2.2.lookup 124 = some (.getfield 168, 3) := by decide +kernel
theorem q78_127 : z_m78.2.2.2.2.2.lookup 127 = some (.iload_n 1, 1) := by decide +kernel
theorem q78_128 : z_m78.2.2.2.2.2.lookup 128 = some (.iaload, 1) := by decide +kernel
theorem q78_129 : z_m78.2.2.2.2.2.lookup 129 = some (.ireturn, 1) := by decide +kernel
theorem q78_130 : z_m78.2.2.2.2.2.lookup 130 = some (.aload_n 0, 1) := by decide +kernel
theorem q78_131 : z_m78.2.2.2.2.2.lookup 131 = some (.getfield 10, 3) := by decide +kernel
theorem q78_134 : z_m78.2.2.2.2.2.lookup 134 = some (.iload_n 1, 1) := by decide +kernel
theorem q78_135 : z_m78.2.2.2.2.2.lookup 135 = some (.iload_n 2, 1) := by decide +kernel
theorem q78_136 : z_m78.2.2.2.2.2.lookup 136 = some (.iconst 5, 1) := by decide +kernel
theorem q78_137 : z_m78.2.2.2.2.2.lookup 137 = some (.isub, 1) := by decide +kernel
theorem q78_138 : z_m78.2.2.2.2.2.lookup 138 = some (.aload_n 0, 1) := by decide +kernel
theorem q78_139 : z_m78.2.2.2.2.2.lookup 139 = some (.getfield 10, 3) := by decide +kernel
theorem q78_142 : z_m78.2.2.2.2.2.lookup 142 = some (.getfield 168, 3) := by decide +kernel
theorem q78_145 : z_m78.2.2.2.2.2.lookup 145 = some (.iload_n 1, 1) := by decide +kernel
theorem q78_146 : z_m78.2.2.2.2.2.lookup 146 = some (.iaload, 1) := by decide +kernel
theorem q78_147 : z_m78.2.2.2.2.2.lookup 147 = some (.invokevirtual 171, 3) := by decide +kernel
theorem q78_150 : z_m78.2.2.2.2.2.lookup 150 = some (.ireturn, 1) := by decide +kernel
theorem q78_151 : z_m78.2.2.2.2.2.lookup 151 = some (.aload_n 0, 1) := by decide +kernel
theorem q78_152 : z_m78.2.2.2.2.2.lookup 152 = some (.getfield 10, 3) := by decide +kernel
theorem q78_155 : z_m78.2.2.2.2.2.lookup 155 = some (.iload_n 1, 1) := by decide +kernel
theorem q78_156 : z_m78.2.2.2.2.2.lookup 156 = some (.invokevirtual 175, 3) := by decide +kernel
theorem q78_159 : z_m78.2.2.2.2.2.lookup 159 = some (.ireturn, 1) := by decide +kernel
theorem q78_160 : z_m78.2.2.2.2.2.lookup 160 = some (.aload_n 0, 1) := by decide +kernel
theorem q78_161 : z_m78.2.2.2.2.2.lookup 161 = some (.getfield 10, 3) := by decide +kernel
theorem q78_164 : z_m78.2.2.2.2.2.lookup 164 = some (.iload_n 1, 1) := by decide +kernel
theorem q78_165 : z_m78.2.2.2.2.2.lookup 165 = some (.invokevirtual 179, 3) := by decide +kernel
theorem q78_168 : z_m78.2.2.2.2.2.lookup 168 = some (.ireturn, 1) := by decide +kernel
theorem q78_169 : z_m78.2.2.2.2.2.lookup 169 = some (.aload_n 0, 1) := by decide +kernel
theorem q78_170 : z_m78.2.2.2.2.2.lookup 170 = some (.getfield 10, 3) := by decide +kernel
theorem q78_173 : z_m78.2.2.2.2.2.lookup 173 = some (.getfield 182, 3) := by decide +kernel
theorem q78_176 : z_m78.2.2.2.2.2.lookup 176 = some (.iload_n 1, 1) := by decide +kernel
theorem q78_177 : z_m78.2.2.2.2.2.lookup 177 = some (.iaload, 1) := by decide +kernel
theorem q78_178 : z_m78.2.2.2.2.2.lookup 178 = some (.ireturn, 1) := by decide +kernel
theorem q78_179 : z_m78.2.2.2.2.2.lookup 179 = some (.aload_n 0, 1) := by decide +kernel
theorem q78_180 : z_m78.2.2.2.2.2.lookup 180 = some (.getfield 10, 3) := by decide +kernel
theorem q78_183 : z_m78.2.2.2.2.2.lookup 183 = some (.getfield 184, 3) := by decide +kernel
theorem q78_186 : z_m78.2.2.2.2.2.lookup 186 = some (.iload_n 1, 1) := by decide +kernel
theorem q78_187 : z_m78.2.2.2.2.2.lookup 187 = some (.baload, 1) := by decide +kernel
theorem q78_188 : z_m78.2.2.2.2.2.lookup 188 = some (.ifCond .eq 7, 3) := by decide +kernel
theorem q78_191 : z_m78.2.2.2.2.2.lookup 191 = some (.iconst 1, 1) := by decide +kernel
theorem q78_192 : z_m78.2.2.2.2.2.lookup 192 = some (.goto 4, 3) := by decide +kernel
theorem q78_195 : z_m78.2.2.2.2.2.lookup 195 = some (.iconst 0, 1) := by decide +kernel
theorem q78_196 : z_m78.2.2.2.2.2.lookup 196 = some (.ireturn, 1) := by decide +kernel
theorem q78_197 : z_m78.2.2.2.2.2.lookup 197 = some (.bipush (-2), 2) := by decide +kernel
theorem q78_199 : z_m78.2.2.2.2.2.lookup 199 = some (.ireturn, 1) := by decide +kernel
theorem q79_0 : z_m79.2.2.2.2.2.lookup 0 = some (.iload_n 1, 1) := by decide +kernel
theorem q79_1 : z_m79.2.2.2.2.2.lookup 1 = some (.invokestatic 139, 3) := by decide +kernel
theorem q79_4 : z_m79.2.2.2.2.2.lookup 4 = some (.ifCond .eq 13, 3) := by decide +kernel
theorem q79_7 : z_m79.2.2.2.2.2.lookup 7 = some (.iload_n 2, 1) := by decide +kernel
theorem q79_8 : z_m79.2.2.2.2.2.lookup 8 = some (.iconst 0, 1) := by decide +kernel
theorem q79_9 : z_m79.2.2.2.2.2.lookup 9 = some (.ldc 188, 2) := by decide +kernel
theorem q79_11 : z_m79.2.2.2.2.2.lookup 11 = some (.invokestatic 128, 3) := by decide +kernel
theorem q79_14 : z_m79.2.2.2.2.2.lookup 14 = some (.ifCond .ne 6, 3) := by decide +kernel
theorem q79_17 : z_m79.2.2.2.2.2.lookup 17 = some (.bipush (-2), 2) := by decide +kernel
theorem q79_19 : z_m79.2.2.2.2.2.lookup 19 = some (.ireturn, 1) := by decide +kernel
theorem q79_20 : z_m79.2.2.2.2.2.lookup 20 = some (.iload_n 2, 1) := by decide +kernel
theorem q79_21 : z_m79.2.2.2.2.2.lookup 21 = some (.istore_n 3, 1) := by decide +kernel
theorem q79_22 : z_m79.2.2.2.2.2.lookup 22 = some (.iconst 0, 1) := by decide +kernel
theorem q79_23 : z_m79.2.2.2.2.2.lookup 23 = some (.istore 4, 2) := by decide +kernel
theorem q79_25 : z_m79.2.2.2.2.2.lookup 25 = some (.iconst 0, 1) := by decide +kernel
theorem q79_26 : z_m79.2.2.2.2.2.lookup 26 = some (.istore 5, 2) := by decide +kernel
theorem q79_28 : z_m79.2.2.2.2.2.lookup 28 = some (.iload 5, 2) := by decide +kernel
theorem q79_30 : z_m79.2.2.2.2.2.lookup 30 = some (.aload_n 0, 1) := by decide +kernel
theorem q79_31 : z_m79.2.2.2.2.2.lookup 31 = some (.getfield 10, 3) := by decide +kernel
theorem q79_34 : z_m79.2.2.2.2.2.lookup 34 = some (.getfield 142, 3) := by decide +kernel
theorem q79_37 : z_m79.2.2.2.2.2.lookup 37 = some (.if_icmp .ge 64, 3) := by decide +kernel
theorem q79_40 : z_m79.2.2.2.2.2.lookup 40 = some (.aload_n 0, 1) := by decide +kernel
theorem q79_41 : z_m79.2.2.2.2.2.lookup 41 = some (.getfield 10, 3) := by decide +kernel
theorem q79_44 : z_m79.2.2.2.2.2.lookup 44 = some (.iload 5, 2) := by decide +kernel
theorem q79_46 : z_m79.2.2.2.2.2.lookup 46 = some (.iload_n 1, 1) := by decide +kernel
theorem q79_47 : z_m79.2.2.2.2.2.lookup 47 = some (.invokevirtual 189, 3) := by decide +kernel
theorem q79_50 : z_m79.2.2.2.2.2.lookup 50 = some (.ifCond .ne 6, 3) := by decide +kernel
theorem q79_53 : z_m79.2.2.2.2.2.lookup 53 = some (.goto 42, 3) := by decide +kernel
theorem q79_56 : z_m79.2.2.2.2.2.lookup 56 = some (.aload_n 0, 1) := by decide +kernel
theorem q79_57 : z_m79.2.2.2.2.2.lookup 57 = some (.getfield 10, 3) := by decide +kernel
theorem q79_60 : z_m79.2.2.2.2.2.lookup 60 = some (.getfield 168, 3) := by decide +kernel
theorem q79_63 : z_m79.2.2.2.2.2.lookup 63 = some (.iload 5, 2) := by decide +kernel
theorem q79_65 : z_m79.2.2.2.2.2.lookup 65 = some (.iaload, 1) := by decide +kernel
theorem q79_66 : z_m79.2.2.2.2.2.lookup 66 = some (.iload_n 3, 1) := by decide +kernel
theorem q79_67 : z_m79.2.2.2.2.2.lookup 67 = some (.if_icmp .le 6, 3) := by decide +kernel
theorem q79_70 : z_m79.2.2.2.2.2.lookup 70 = some (.goto 31, 3) := by decide +kernel
theorem q79_73 : z_m79.2.2.2.2.2.lookup 73 = some (.iload_n 3, 1) := by decide +kernel
theorem q79_74 : z_m79.2.2.2.2.2.lookup 74 = some (.aload_n 0, 1) := by decide +kernel
theorem q79_75 : z_m79.2.2.2.2.2.lookup 75 = some (.getfield 10, 3) := by decide +kernel
theorem q79_78 : z_m79.2.2.2.2.2.lookup 78 = some (.getfield 168, 3) := by decide +kernel
theorem q79_81 : z_m79.2.2.2.2.2.lookup 81 = some (.iload 5, 2) := by decide +kernel
theorem q79_83 : z_m79.2.2.2.2.2.lookup 83 = some (.iaload, 1) := by decide +kernel
theorem q79_84 : z_m79.2.2.2.2.2.lookup 84 = some (.isub, 1) := by decide +kernel
theorem q79_85 : z_m79.2.2.2.2.2.lookup 85 = some (.istore_n 3, 1) := by decide +kernel
theorem q79_86 : z_m79.2.2.2.2.2.lookup 86 = some (.aload_n 0, 1) := by decide +kernel
theorem q79_87 : z_m79.2.2.2.2.2.lookup 87 = some (.iload 5, 2) := by decide +kernel
theorem q79_89 : z_m79.2.2.2.2.2.lookup 89 = some (.invokevirtual 193, 3) := by decide +kernel
theorem q79_92 : z_m79.2.2.2.2.2.lookup 92 = some (.iinc 4 1, 3) := by decide +kernel
theorem q79_95 : z_m79.2.2.2.2.2.lookup 95 = some (.iinc 5 1, 3) := by decide +kernel
theorem q79_98 : z_m79.2.2.2.2.2.lookup 98 = some (.goto (-70), 3) := by decide +kernel
theorem q79_101 : z_m79.2.2.2.2.2.lookup 101 = some (.iload 4, 2) := by decide +kernel
theorem q79_103 : z_m79.2.2.2.2.2.lookup 103 = some (.ireturn, 1) := by decide +kernel
theorem q80_0 : z_m80.2.2.2.2.2.lookup 0 = some (.iconst 0, 1) := by decide +kernel
theorem q80_1 : z_m80.2.2.2.2.2.lookup 1 = some (.istore_n 2, 1) := by decide +kernel
theorem q80_2 : z_m80.2.2.2.2.2.lookup 2 = some (.iload_n 2, 1) := by decide +kernel
theorem q80_3 : z_m80.2.2.2.2.2.lookup 3 = some (.iconst 4, 1) := by decide +kernel
theorem q80_4 : z_m80.2.2.2.2.2.lookup 4 = some (.if_icmp .ge 36, 3) := by decide +kernel
theorem q80_7 : z_m80.2.2.2.2.2.lookup 7 = some (.aload_n 0, 1) := by decide +kernel
theorem q80_8 : z_m80.2.2.2.2.2.lookup 8 = some (.getfield 16, 3) := by decide +kernel
theorem q80_11 : z_m80.2.2.2.2.2.lookup 11 = some (.iload_n 2, 1) := by decide +kernel
theorem q80_12 : z_m80.2.2.2.2.2.lookup 12 = some (.dup2, 1) := by decide +kernel
theorem q80_13 : z_m80.2.2.2.2.2.lookup 13 = some (.iaload, 1) := by decide +kernel
theorem q80_14 : z_m80.2.2.2.2.2.lookup 14 = some (.aload_n 0, 1) := by decide +kernel
theorem q80_15 : z_m80.2.2.2.2.2.lookup 15 = some (.getfield 10, 3) := by decide +kernel
theorem q80_18 : z_m80.2.2.2.2.2.lookup 18 = some (.iload_n 1, 1) := by decide +kernel
theorem q80_19 : z_m80.2.2.2.2.2.lookup 19 = some (.iload_n 2, 1) := by decide +kernel
theorem q80_20 : z_m80.2.2.2.2.2.lookup 20 = some (.aload_n 0, 1) := by decide +kernel
theorem q80_21 : z_m80.2.2.2.2.2.lookup 21 = some (.getfield 10, 3) := by decide +kernel
theorem q80_24 : z_m80.2.2.2.2.2.lookup 24 = some (.getfield 168, 3) := by decide +kernel
theorem q80_27 : z_m80.2.2.2.2.2.lookup 27 = some (.iload_n 1, 1) := by decide +kernel
theorem q80_28 : z_m80.2.2.2.2.2.lookup 28 = some (.iaload, 1) := by decide +kernel
theorem q80_29 : z_m80.2.2.2.2.2.lookup 29 = some (.invokevirtual 171, 3) := by decide +kernel
theorem q80_32 : z_m80.2.2.2.2.2.lookup 32 = some (.iadd, 1) := by decide +kernel
theorem q80_33 : z_m80.2.2.2.2.2.lookup 33 = some (.iastore, 1) := by decide +kernel
theorem q80_34 : z_m80.2.2.2.2.2.lookup 34 = some (.iinc 2 1, 3) := by decide +kernel
theorem q80_37 : z_m80.2.2.2.2.2.lookup 37 = some (.goto (-35), 3) := by decide +kernel
theorem q80_40 : z_m80.2.2.2.2.2.lookup 40 = some (.aload_n 0, 1) := by decide +kernel
theorem q80_41 : z_m80.2.2.2.2.2.lookup 41 = some (.getfield 16, 3) := by decide +kernel
theorem q80_44 : z_m80.2.2.2.2.2.lookup 44 = some (.iconst 4, 1) := by decide +kernel
theorem q80_45 : z_m80.2.2.2.2.2.lookup 45 = some (.dup2, 1) := by decide +kernel
theorem q80_46 : z_m80.2.2.2.2.2.lookup 46 = some (.iaload, 1) := by decide +kernel
theorem q80_47 : z_m80.2.2.2.2.2.lookup 47 = some (.aload_n 0, 1) := by decide +kernel
theorem q80_48 : z_m80.2.2.2.2.2.lookup 48 = some (.getfield 10, 3) := by decide +kernel
theorem q80_51 : z_m80.2.2.2.2.2.lookup 51 = some (.iload_n 1, 1) := by decide +kernel
theorem q80_52 : z_m80.2.2.2.2.2.lookup 52 = some (.invokevirtual 175, 3) := by decide +kernel
theorem q80_55 : z_m80.2.2.2.2.2.lookup 55 = some (.iadd, 1) := by decide +kernel
theorem q80_56 : z_m80.2.2.2.2.2.lookup 56 = some (.iastore, 1) := by decide +kernel
theorem q80_57 : z_m80.2.2.2.2.2.lookup 57 = some (.aload_n 0, 1) := by decide +kernel
theorem q80_58 : z_m80.2.2.2.2.2.lookup 58 = some (.getfield 10, 3) := by decide +kernel
theorem q80_61 : z_m80.2.2.2.2.2.lookup 61 = some (.getfield 184, 3) := by decide +kernel
theorem q80_64 : z_m80.2.2.2.2.2.lookup 64 = some (.iload_n 1, 1) := by decide +kernel
theorem q80_65 : z_m80.2.2.2.2.2.lookup 65 = some (.iconst 1, 1) := by decide +kernel
theorem q80_66 : z_m80.2.2.2.2.2.lookup 66 = some (.bastore, 1) := by decide +kernel
theorem q80_67 : z_m80.2.2.2.2.2.lookup 67 = some (.return_, 1) := by decide +kernel
theorem q81_0 : z_m81.2.2.2.2.2.lookup 0 = some (.iload_n 1, 1) := by decide +kernel
theorem q81_1 : z_m81.2.2.2.2.2.lookup 1 = some (.invokestatic 139, 3) := by decide +kernel
theorem q81_4 : z_m81.2.2.2.2.2.lookup 4 = some (.ifCond .eq 13, 3) := by decide +kernel
theorem q81_7 : z_m81.2.2.2.2.2.lookup 7 = some (.iload_n 2, 1) := by decide +kernel
theorem q81_8 : z_m81.2.2.2.2.2.lookup 8 = some (.iconst 0, 1) := by decide +kernel
theorem q81_9 : z_m81.2.2.2.2.2.lookup 9 = some (.bipush 100, 2) := by decide +kernel
theorem q81_11 : z_m81.2.2.2.2.2.lookup 11 = some (.invokestatic 128, 3) := by decide +kernel
theorem q81_14 : z_m81.2.2.2.2.2.lookup 14 = some (.ifCond .ne 6, 3) := by decide +kernel
theorem q81_17 : z_m81.2.2.2.2.2.lookup 17 = some (.bipush (-2), 2) := by decide +kernel
theorem q81_19 : z_m81.2.2.2.2.2.lookup 19 = some (.ireturn, 1) := by decide +kernel
theorem q81_20 : z_m81.2.2.2.2.2.lookup 20 = some (.aload_n 0, 1) := by decide +kernel
theorem q81_21 : z_m81.2.2.2.2.2.lookup 21 = some (.getfield 10, 3) := by decide +kernel
theorem q81_24 : z_m81.2.2.2.2.2.lookup 24 = some (.iload_n 1, 1) := by decide +kernel
theorem q81_25 : z_m81.2.2.2.2.2.lookup 25 = some (.iload_n 2, 1) := by decide +kernel
theorem q81_26 : z_m81.2.2.2.2.2.lookup 26 = some (.invokevirtual 196, 3) := by decide +kernel
theorem q81_29 : z_m81.2.2.2.2.2.lookup 29 = some (.istore_n 3, 1) := by decide +kernel
theorem q81_30 : z_m81.2.2.2.2.2.lookup 30 = some (.aload_n 0, 1) := by decide +kernel
theorem q81_31 : z_m81.2.2.2.2.2.lookup 31 = some (.getfield 16, 3) := by decide +kernel
theorem q81_34 : z_m81.2.2.2.2.2.lookup 34 = some (.iconst 5, 1) := by decide +kernel
theorem q81_35 : z_m81.2.2.2.2.2.lookup 35 = some (.dup2, 1) := by decide +kernel
theorem q81_36 : z_m81.2.2.2.2.2.lookup 36 = some (.iaload, 1) := by decide +kernel
theorem q81_37 : z_m81.2.2.2.2.2.lookup 37 = some (.iload_n 3, 1) := by decide +kernel
theorem q81_38 : z_m81.2.2.2.2.2.lookup 38 = some (.iadd, 1) := by decide +kernel
theorem q81_39 : z_m81.2.2.2.2.2.lookup 39 = some (.iastore, 1) := by decide +kernel
theorem q81_40 : z_m81.2.2.2.2.2.lookup 40 = some (.iload_n 3, 1) := by decide +kernel
theorem q81_41 : z_m81.2.2.2.2.2.lookup 41 = some (.ireturn, 1) := by decide +kernel
theorem q82_0 : z_m82.2.2.2.2.2.lookup 0 = some (.iload_n 1, 1) := by decide +kernel
theorem q82_1 : z_m82.2.2.2.2.2.lookup 1 = some (.invokestatic 139, 3) := by decide +kernel
theorem q82_4 : z_m82.2.2.2.2.2.lookup 4 = some (.ifCond .eq 14, 3) := by decide +kernel
theorem q82_7 : z_m82.2.2.2.2.2.lookup 7 = some (.aload_n 0, 1) := by decide +kernel
theorem q82_8 : z_m82.2.2.2.2.2.lookup 8 = some (.getfield 10, 3) := by decide +kernel
theorem q82_11 : z_m82.2.2.2.2.2.lookup 11 = some (.iload_n 1, 1) := by decide +kernel
theorem q82_12 : z_m82.2.2.2.2.2.lookup 12 = some (.invokevirtual 200, 3) := by decide +kernel
theorem q82_15 : z_m82.2.2.2.2.2.lookup 15 = some (.goto 5, 3) := by decide +kernel
theorem q82_18 : z_m82.2.2.2.2.2.lookup 18 = some (.bipush (-2), 2) := by decide +kernel
theorem q82_20 : z_m82.2.2.2.2.2.lookup 20 = some (.ireturn, 1) := by decide +kernel
theorem q83_0 : z_m83.2.2.2.2.2.lookup 0 = some (.iload_n 1, 1) := by decide +kernel
theorem q83_1 : z_m83.2.2.2.2.2.lookup 1 = some (.iconst 0, 1) := by decide +kernel
theorem q83_2 : z_m83.2.2.2.2.2.lookup 2 = some (.iconst 5, 1) := by decide +kernel
theorem q83_3 : z_m83.2.2.2.2.2.lookup 3 = some (.invokestatic 128, 3) := by decide +kernel
theorem q83_6 : z_m83.2.2.2.2.2.lookup 6 = some (.ifCond .eq 12, 3) := by decide +kernel
theorem q83_9 : z_m83.2.2.2.2.2.lookup 9 = some (.aload_n 0, 1) := by decide +kernel
theorem q83_10 : z_m83.2.2.2.2.2.lookup 10 = some (.getfield 16, 3) := by decide +kernel
theorem q83_13 : z_m83.2.2.2.2.2.lookup 13 = some (.iload_n 1, 1) := by decide +kernel
theorem q83_14 : z_m83.2.2.2.2.2.lookup 14 = some (.iaload, 1) := by decide +kernel
theorem q83_15 : z_m83.2.2.2.2.2.lookup 15 = some (.goto 5, 3) := by decide +kernel
theorem q83_18 : z_m83.2.2.2.2.2.lookup 18 = some (.bipush (-2), 2) := by decide +kernel
theorem q83_20 : z_m83.2.2.2.2.2.lookup 20 = some (.ireturn, 1) := by decide +kernel
theorem q84_0 : z_m84.2.2.2.2.2.lookup 0 = some (.iload_n 1, 1) := by decide +kernel
theorem q84_1 : z_m84.2.2.2.2.2.lookup 1 = some (.invokestatic 203, 3) := by decide +kernel
theorem q84_4 : z_m84.2.2.2.2.2.lookup 4 = some (.ifCond .eq 13, 3) := by decide +kernel
theorem q84_7 : z_m84.2.2.2.2.2.lookup 7 = some (.iload_n 2, 1) := by decide +kernel
theorem q84_8 : z_m84.2.2.2.2.2.lookup 8 = some (.iconst 1, 1) := by decide +kernel
theorem q84_9 : z_m84.2.2.2.2.2.lookup 9 = some (.ldc 188, 2) := by decide +kernel
theorem q84_11 : z_m84.2.2.2.2.2.lookup 11 = some (.invokestatic 128, 3) := by decide +kernel
theorem q84_14 : z_m84.2.2.2.2.2.lookup 14 = some (.ifCond .ne 6, 3) := by decide +kernel
theorem q84_17 : z_m84.2.2.2.2.2.lookup 17 = some (.bipush (-2), 2) := by decide +kernel
theorem q84_19 : z_m84.2.2.2.2.2.lookup 19 = some (.ireturn, 1) := by decide +kernel
theorem q84_20 : z_m84.2.2.2.2.2.lookup 20 = some (.aload_n 0, 1) := by decide +kernel
theorem q84_21 : z_m84.2.2.2.2.2.lookup 21 = some (.getfield 16, 3) := by decide +kernel
theorem q84_24 : z_m84.2.2.2.2.2.lookup 24 = some (.iload_n 1, 1) := by decide +kernel
theorem q84_25 : z_m84.2.2.2.2.2.lookup 25 = some (.iaload, 1) := by decide +kernel
theorem q84_26 : z_m84.2.2.2.2.2.lookup 26 = some (.iload_n 2, 1) := by decide +kernel
theorem q84_27 : z_m84.2.2.2.2.2.lookup 27 = some (.if_icmp .ge 6, 3) := by decide +kernel
theorem q84_30 : z_m84.2.2.2.2.2.lookup 30 = some (.bipush (-3), 2) := by decide +kernel
theorem q84_32 : z_m84.2.2.2.2.2.lookup 32 = some (.ireturn, 1) := by decide +kernel
theorem q84_33 : z_m84.2.2.2.2.2.lookup 33 = some (.iload_n 2, 1) := by decide +kernel
theorem q84_34 : z_m84.2.2.2.2.2.lookup 34 = some (.aload_n 0, 1) := by decide +kernel
theorem q84_35 : z_m84.2.2.2.2.2.lookup 35 = some (.getfield 23, 3) := by decide +kernel
theorem q84_38 : z_m84.2.2.2.2.2.lookup 38 = some (.iload_n 1, 1) := by decide +kernel
theorem q84_39 : z_m84.2.2.2.2.2.lookup 39 = some (.aload_n 0, 1) := by decide +kernel
theorem q84_40 : z_m84.2.2.2.2.2.lookup 40 = some (.getfield 132, 3) := by decide +kernel
theorem q84_43 : z_m84.2.2.2.2.2.lookup 43 = some (.aload_n 0, 1) := by decide +kernel
theorem q84_44 : z_m84.2.2.2.2.2.lookup 44 = some (.getfield 132, 3) := by decide +kernel
theorem q84_47 : z_m84.2.2.2.2.2.lookup 47 = some (.invokevirtual 206, 3) := by decide +kernel
theorem q84_50 : z_m84.2.2.2.2.2.lookup 50 = some (.invokestatic 209, 3) := by decide +kernel
theorem q84_53 : z_m84.2.2.2.2.2.lookup 53 = some (.istore_n 3, 1) := by decide +kernel
theorem q84_54 : z_m84.2.2.2.2.2.lookup 54 = some (.aload_n 0, 1) := by decide +kernel
theorem q84_55 : z_m84.2.2.2.2.2.lookup 55 = some (.getfield 16, 3) := by decide +kernel
theorem q84_58 : z_m84.2.2.2.2.2.lookup 58 = some (.iload_n 1, 1) := by decide +kernel
theorem q84_59 : z_m84.2.2.2.2.2.lookup 59 = some (.dup2, 1) := by decide +kernel
theorem q84_60 : z_m84.2.2.2.2.2.lookup 60 = some (.iaload, 1) := by decide +kernel
theorem q84_61 : z_m84.2.2.2.2.2.lookup 61 = some (.iload_n 2, 1) := by decide +kernel
theorem q84_62 : z_m84.2.2.2.2.2.lookup 62 = some (.isub, 1) := by decide +kernel
theorem q84_63 : z_m84.2.2.2.2.2.lookup 63 = some (.iastore, 1) := by decide +kernel
theorem q84_64 : z_m84.2.2.2.2.2.lookup 64 = some (.aload_n 0, 1) := by decide +kernel
theorem q84_65 : z_m84.2.2.2.2.2.lookup 65 = some (.dup, 1) := by decide +kernel
theorem q84_66 : z_m84.2.2.2.2.2.lookup 66 = some (.getfield 212, 3) := by decide +kernel
theorem q84_69 : z_m84.2.2.2.2.2.lookup 69 = some (.iload_n 3, 1) := by decide +kernel
theorem q84_70 : z_m84.2.2.2.2.2.lookup 70 = some (.iadd, 1) := by decide +kernel
theorem q84_71 : z_m84.2.2.2.2.2.lookup 71 = some (.putfield 212, 3) := by decide +kernel
theorem q84_74 : z_m84.2.2.2.2.2.lookup 74 = some (.iload_n 3, 1) := by decide +kernel
theorem q84_75 : z_m84.2.2.2.2.2.lookup 75 = some (.ireturn, 1) := by decide +kernel
theorem q85_0 : z_m85.2.2.2.2.2.lookup 0 = some (.iload_n 1, 1) := by decide +kernel
theorem q85_1 : z_m85.2.2.2.2.2.lookup 1 = some (.invokestatic 203, 3) := by decide +kernel
theorem q85_4 : z_m85.2.2.2.2.2.lookup 4 = some (.ifCond .eq 21, 3) := by decide +kernel
theorem q85_7 : z_m85.2.2.2.2.2.lookup 7 = some (.iload_n 2, 1) := by decide +kernel
theorem q85_8 : z_m85.2.2.2.2.2.lookup 8 = some (.invokestatic 215, 3) := by decide +kernel
theorem q85_11 : z_m85.2.2.2.2.2.lookup 11 = some (.ifCond .eq 14, 3) := by decide +kernel
theorem q85_14 : z_m85.2.2.2.2.2.lookup 14 = some (.iload_n 3, 1) := by decide +kernel
theorem q85_15 : z_m85.2.2.2.2.2.lookup 15 = some (.iconst 0, 1) := by decide +kernel
theorem q85_16 : z_m85.2.2.2.2.2.lookup 16 = some (.sipush 999, 3) := by decide +kernel
theorem q85_19 : z_m85.2.2.2.2.2.lookup 19 = some (.invokestatic 128, 3) := by decide +kernel
theorem q85_22 : z_m85.2.2.2.2.2.lookup 22 = some (.ifCond .ne 6, 3) := by decide +kernel
theorem q85_25 : z_m85.2.2.2.2.2.lookup 25 = some (.bipush (-2), 2) := by decide +kernel
theorem q85_27 : z_m85.2.2.2.2.2.lookup 27 = some (.ireturn, 1) := by decide +kernel
theorem q85_28 : z_m85.2.2.2.2.2.lookup 28 = some (.aload_n 0, 1) := by decide +kernel
theorem q85_29 : z_m85.2.2.2.2.2.lookup 29 = some (.getfield 23, 3) := by decide +kernel
theorem q85_32 : z_m85.2.2.2.2.2.lookup 32 = some (.getfield 218, 3) := by decide +kernel
theorem q85_35 : z_m85.2.2.2.2.2.lookup 35 = some (.bipush 40, 2) := by decide +kernel
theorem q85_37 : z_m85.2.2.2.2.2.lookup 37 = some (.if_icmp .lt 6, 3) := by decide +kernel
theorem q85_40 : z_m85.2.2.2.2.2.lookup 40 = some (.bipush (-4), 2) := by decide +kernel
theorem q85_42 : z_m85.2.2.2.2.2.lookup 42 = some (.ireturn, 1) := by decide +kernel
theorem q85_43 : z_m85.2.2.2.2.2.lookup 43 = some (.aload_n 0, 1) := by decide +kernel
theorem q85_44 : z_m85.2.2.2.2.2.lookup 44 = some (.getfield 23, 3) := by decide +kernel
theorem q85_47 : z_m85.2.2.2.2.2.lookup 47 = some (.iload_n 1, 1) := by decide +kernel
theorem q85_48 : z_m85.2.2.2.2.2.lookup 48 = some (.iload_n 2, 1) := by decide +kernel
theorem q85_49 : z_m85.2.2.2.2.2.lookup 49 = some (.iload_n 3, 1) := by decide +kernel
theorem q85_50 : z_m85.2.2.2.2.2.lookup 50 = some (.aload_n 0, 1) := by decide +kernel
theorem q85_51 : z_m85.2.2.2.2.2.lookup 51 = some (.getfield 132, 3) := by decide +kernel
theorem q85_54 : z_m85.2.2.2.2.2.lookup 54 = some (.invokevirtual 219, 3) := by decide +kernel
theorem q85_57 : z_m85.2.2.2.2.2.lookup 57 = some (.ireturn, 1) := by decide +kernel
theorem q86_0 : z_m86.2.2.2.2.2.lookup 0 = some (.iload_n 1, 1) := by decide +kernel
theorem q86_1 : z_m86.2.2.2.2.2.lookup 1 = some (.invokestatic 203, 3) := by decide +kernel
theorem q86_4 : z_m86.2.2.2.2.2.lookup 4 = some (.ifCond .eq 22, 3) := by decide +kernel
theorem q86_7 : z_m86.2.2.2.2.2.lookup 7 = some (.iload_n 2, 1) := by decide +kernel
theorem q86_8 : z_m86.2.2.2.2.2.lookup 8 = some (.invokestatic 215, 3) := by decide +kernel
theorem q86_11 : z_m86.2.2.2.2.2.lookup 11 = some (.ifCond .eq 15, 3) := by decide +kernel
theorem q86_14 : z_m86.2.2.2.2.2.lookup 14 = some (.iload_n 3, 1) := by decide +kernel
theorem q86_15 : z_m86.2.2.2.2.2.lookup 15 = some (.iconst 0, 1) := by decide +kernel
theorem q86_16 : z_m86.2.2.2.2.2.lookup 16 = some (.aload_n 0, 1) := by decide +kernel
theorem q86_17 : z_m86.2.2.2.2.2.lookup 17 = some (.getfield 132, 3) := by decide +kernel
theorem q86_20 : z_m86.2.2.2.2.2.lookup 20 = some (.invokestatic 128, 3) := by decide +kernel
theorem q86_23 : z_m86.2.2.2.2.2.lookup 23 = some (.ifCond .ne 6, 3) := by decide +kernel
theorem q86_26 : z_m86.2.2.2.2.2.lookup 26 = some (.bipush (-2), 2) := by decide +kernel
theorem q86_28 : z_m86.2.2.2.2.2.lookup 28 = some (.ireturn, 1) := by decide +kernel
theorem q86_29 : z_m86.2.2.2.2.2.lookup 29 = some (.aload_n 0, 1) := by decide +kernel
theorem q86_30 : z_m86.2.2.2.2.2.lookup 30 = some (.getfield 23, 3) := by decide +kernel
theorem q86_33 : z_m86.2.2.2.2.2.lookup 33 = some (.iload_n 1, 1) := by decide +kernel
theorem q86_34 : z_m86.2.2.2.2.2.lookup 34 = some (.iload_n 2, 1) := by decide +kernel
theorem q86_35 : z_m86.2.2.2.2.2.lookup 35 = some (.iload_n 3, 1) := by decide +kernel
theorem q86_36 : z_m86.2.2.2.2.2.lookup 36 = some (.invokevirtual 206, 3) := by decide +kernel
theorem q86_39 : z_m86.2.2.2.2.2.lookup 39 = some (.ireturn, 1) := by decide +kernel
theorem q87_0 : z_m87.2.2.2.2.2.lookup 0 = some (.iload_n 1, 1) := by decide +kernel
theorem q87_1 : z_m87.2.2.2.2.2.lookup 1 = some (.iconst 1, 1) := by decide +kernel
theorem q87_2 : z_m87.2.2.2.2.2.lookup 2 = some (.bipush 8, 2) := by decide +kernel
theorem q87_4 : z_m87.2.2.2.2.2.lookup 4 = some (.invokestatic 128, 3) := by decide +kernel
theorem q87_7 : z_m87.2.2.2.2.2.lookup 7 = some (.ifCond .ne 6, 3) := by decide +kernel
theorem q87_10 : z_m87.2.2.2.2.2.lookup 10 = some (.bipush (-2), 2) := by decide +kernel
theorem q87_12 : z_m87.2.2.2.2.2.lookup 12 = some (.ireturn, 1) := by decide +kernel
theorem q87_13 : z_m87.2.2.2.2.2.lookup 13 = some (.aload_n 0, 1) := by decide +kernel
theorem q87_14 : z_m87.2.2.2.2.2.lookup 14 = some (.getfield 30, 3) := by decide +kernel
theorem q87_17 : z_m87.2.2.2.2.2.lookup 17 = some (.getfield 222, 3) := by decide +kernel
theorem q87_20 : z_m87.2.2.2.2.2.lookup 20 = some (.iload_n 1, 1) := by decide +kernel
theorem q87_21 : z_m87.2.2.2.2.2.lookup 21 = some (.iadd, 1) := by decide +kernel
theorem q87_22 : z_m87.2.2.2.2.2.lookup 22 = some (.sipush 160, 3) := by decide +kernel
theorem q87_25 : z_m87.2.2.2.2.2.lookup 25 = some (.if_icmp .le 6, 3) := by decide +kernel
theorem q87_28 : z_m87.2.2.2.2.2.lookup 28 = some (.bipush (-4), 2) := by decide +kernel
theorem q87_30 : z_m87.2.2.2.2.2.lookup 30 = some (.ireturn, 1) := by decide +kernel
theorem q87_31 : z_m87.2.2.2.2.2.lookup 31 = some (.iconst 0, 1) := by decide +kernel
theorem q87_32 : z_m87.2.2.2.2.2.lookup 32 = some (.istore 4, 2) := by decide +kernel
theorem q87_34 : z_m87.2.2.2.2.2.lookup 34 = some (.iload 4, 2) := by decide +kernel
theorem q87_36 : z_m87.2.2.2.2.2.lookup 36 = some (.iload_n 1, 1) := by decide +kernel
theorem q87_37 : z_m87.2.2.2.2.2.lookup 37 = some (.if_icmp .ge 28, 3) := by decide +kernel
theorem q87_40 : z_m87.2.2.2.2.2.lookup 40 = some (.aload_n 0, 1) := by decide +kernel
theorem q87_41 : z_m87.2.2.2.2.2.lookup 41 = some (.getfield 30, 3) := by decide +kernel
theorem q87_44 : z_m87.2.2.2.2.2.lookup 44 = some (.lload_n 2, 1) := by decide +kernel
theorem q87_45 : z_m87.2.2.2.2.2.lookup 45 = some (.bipush 8, 2) := by decide +kernel
theorem q87_47 : z_m87.2.2.2.2.2.lookup 47 = some (.iload 4, 2) := by decide +kernel
theorem q87_49 : z_m87.2.2.2.2.2.lookup 49 = some (.imul, 1) := by decide +kernel
theorem q87_50 : z_m87.2.2.2.2.2.lookup 50 = some (.lushr, 1) := by decide +kernel
theorem q87_51 : z_m87.2.2.2.2.2.lookup 51 = some (.l2i, 1) := by decide +kernel
theorem q87_52 : z_m87.2.2.2.2.2.lookup 52 = some (.sipush 255, 3) := by decide +kernel
theorem q87_55 : z_m87.2.2.2.2.2.lookup 55 = some (.iand, 1) := by decide +kernel
theorem q87_56 : z_m87.2.2.2.2.2.lookup 56 = some (.invokevirtual 107, 3) := by decide +kernel
theorem q87_59 : z_m87.2.2.2.2.2.lookup 59 = some (.iinc 4 1, 3) := by decide +kernel
theorem q87_62 : z_m87.2.2.2.2.2.lookup 62 = some (.goto (-28), 3) := by decide +kernel
theorem q87_65 : z_m87.2.2.2.2.2.lookup 65 = some (.aload_n 0, 1) := by decide +kernel
theorem q87_66 : z_m87.2.2.2.2.2.lookup 66 = some (.getfield 30, 3) := by decide +kernel
theorem q87_69 : z_m87.2.2.2.2.2.lookup 69 = some (.getfield 222, 3) := by decide +kernel
theorem q87_72 : z_m87.2.2.2.2.2.lookup 72 = some (.ireturn, 1) := by decide +kernel
theorem q88_0 : z_m88.2.2.2.2.2.lookup 0 = some (.aload_n 0, 1) := by decide +kernel
theorem q88_1 : z_m88.2.2.2.2.2.lookup 1 = some (.getfield 37, 3) := by decide +kernel
theorem q88_4 : z_m88.2.2.2.2.2.lookup 4 = some (.getfield 121, 3) := by decide +kernel
theorem q88_7 : z_m88.2.2.2.2.2.lookup 7 = some (.bipush 6, 2) := by decide +kernel
theorem q88_9 : z_m88.2.2.2.2.2.lookup 9 = some (.if_icmp .lt 6, 3) := by decide +kernel
theorem q88_12 : z_m88.2.2.2.2.2.lookup 12 = some (.bipush (-4), 2) := by decide +kernel
theorem q88_14 : z_m88.2.2.2.2.2.lookup 14 = some (.ireturn, 1) := by decide +kernel
theorem q88_15 : z_m88.2.2.2.2.2.lookup 15 = some (.aload_n 0, 1) := by decide +kernel
theorem q88_16 : z_m88.2.2.2.2.2.lookup 16 = some (.getfield 37, 3) := by decide +kernel
theorem q88_19 : z_m88.2.2.2.2.2.lookup 19 = some (.getfield 111, 3) := by decide +kernel
theorem q88_22 : z_m88.2.2.2.2.2.lookup 22 = some (.aload_n 0, 1) := by decide +kernel
theorem q88_23 : z_m88.2.2.2.2.2.lookup 23 = some (.getfield 37, 3) := by decide +kernel
theorem q88_26 : z_m88.2.2.2.2.2.lookup 26 = some (.getfield 121, 3) := by decide +kernel
theorem q88_29 : z_m88.2.2.2.2.2.lookup 29 = some (.aaload, 1) := by decide +kernel
theorem q88_30 : z_m88.2.2.2.2.2.lookup 30 = some (.aload_n 0, 1) := by decide +kernel
theorem q88_31 : z_m88.2.2.2.2.2.lookup 31 = some (.getfield 30, 3) := by decide +kernel
theorem q88_34 : z_m88.2.2.2.2.2.lookup 34 = some (.invokevirtual 115, 3) := by decide +kernel
theorem q88_37 : z_m88.2.2.2.2.2.lookup 37 = some (.istore_n 1, 1) := by decide +kernel
theorem q88_38 : z_m88.2.2.2.2.2.lookup 38 = some (.aload_n 0, 1) := by decide +kernel
theorem q88_39 : z_m88.2.2.2.2.2.lookup 39 = some (.getfield 30, 3) := by decide +kernel
theorem q88_42 : z_m88.2.2.2.2.2.lookup 42 = some (.invokevirtual 125, 3) := by decide +kernel
theorem q88_45 : z_m88.2.2.2.2.2.lookup 45 = some (.iload_n 1, 1) := by decide +kernel
theorem q88_46 : z_m88.2.2.2.2.2.lookup 46 = some (.ifCond .ne 14, 3) := by decide +kernel
theorem q88_49 : z_m88.2.2.2.2.2.lookup 49 = some (.bipush (-100), 2) := by decide +kernel
theorem q88_51 : z_m88.2.2.2.2.2.lookup 51 = some (.aload_n 0, 1) := by decide +kernel
theorem q88_52 : z_m88.2.2.2.2.2.lookup 52 = some (.getfield 30, 3) := by decide +kernel
theorem q88_55 : z_m88.2.2.2.2.2.lookup 55 = some (.getfield 225, 3) := by decide +kernel
theorem q88_58 : z_m88.2.2.2.2.2.lookup 58 = some (.isub, 1) := by decide +kernel
theorem q88_59 : z_m88.2.2.2.2.2.lookup 59 = some (.ireturn, 1) := by decide +kernel
theorem q88_60 : z_m88.2.2.2.2.2.lookup 60 = some (.aload_n 0, 1) := by decide +kernel
theorem q88_61 : z_m88.2.2.2.2.2.lookup 61 = some (.getfield 37, 3) := by decide +kernel
theorem q88_64 : z_m88.2.2.2.2.2.lookup 64 = some (.dup, 1) := by decide +kernel
theorem q88_65 : z_m88.2.2.2.2.2.lookup 65 = some (.getfield 121, 3) := by decide +kernel
theorem q88_68 : z_m88.2.2.2.2.2.lookup 68 = some (.iconst 1, 1) := by decide +kernel
theorem q88_69 : z_m88.2.2.2.2.2.lookup 69 = some (.iadd, 1) := by decide +kernel
theorem q88_70 : z_m88.2.2.2.2.2.lookup 70 = some (.putfield 121, 3) := by decide +kernel
theorem q88_73 : z_m88.2.2.2.2.2.lookup 73 = some (.aload_n 0, 1) := by decide +kernel
theorem q88_74 : z_m88.2.2.2.2.2.lookup 74 = some (.getfield 37, 3) := by decide +kernel
theorem q88_77 : z_m88.2.2.2.2.2.lookup 77 = some (.getfield 121, 3) := by decide +kernel
theorem q88_80 : z_m88.2.2.2.2.2.lookup 80 = some (.iconst 1, 1) := by decide +kernel
theorem q88_81 : z_m88.2.2.2.2.2.lookup 81 = some (.isub, 1) := by decide +kernel
theorem q88_82 : z_m88.2.2.2.2.2.lookup 82 = some (.ireturn, 1) := by decide +kernel
theorem q89_0 : z_m89.2.2.2.2.2.lookup 0 = some (.iload_n 1, 1) := by decide +kernel
theorem q89_1 : z_m89.2.2.2.2.2.lookup 1 = some (.invokestatic 135, 3) := by decide +kernel
theorem q89_4 : z_m89.2.2.2.2.2.lookup 4 = some (.ifCond .eq 27, 3) := by decide +kernel
theorem q89_7 : z_m89.2.2.2.2.2.lookup 7 = some (.iload_n 2, 1) := by decide +kernel
theorem q89_8 : z_m89.2.2.2.2.2.lookup 8 = some (.invokestatic 215, 3) := by decide +kernel
theorem q89_11 : z_m89.2.2.2.2.2.lookup 11 = some (.ifCond .eq 20, 3) := by decide +kernel
theorem q89_14 : z_m89.2.2.2.2.2.lookup 14 = some (.iload_n 3, 1) := by decide +kernel
theorem q89_15 : z_m89.2.2.2.2.2.lookup 15 = some (.iconst 0, 1) := by decide +kernel
theorem q89_16 : z_m89.2.2.2.2.2.lookup 16 = some (.aload_n 0, 1) := by decide +kernel
theorem q89_17 : z_m89.2.2.2.2.2.lookup 17 = some (.getfield 37, 3) := by decide +kernel
theorem q89_20 : z_m89.2.2.2.2.2.lookup 20 = some (.getfield 121, 3) := by decide +kernel
theorem q89_23 : z_m89.2.2.2.2.2.lookup 23 = some (.iconst 1, 1) := by decide +kernel
theorem q89_24 : z_m89.2.2.2.2.2.lookup 24 = some (.isub, 1) := by decide +kernel
theorem q89_25 : z_m89.2.2.2.2.2.lookup 25 = some (.invokestatic 128, 3) := by decide +kernel
theorem q89_28 : z_m89.2.2.2.2.2.lookup 28 = some (.ifCond .ne 6, 3) := by decide +kernel
theorem q89_31 : z_m89.2.2.2.2.2.lookup 31 = some (.bipush (-2), 2) := by decide +kernel
theorem q89_33 : z_m89.2.2.2.2.2.lookup 33 = some (.ireturn, 1) := by decide +kernel
theorem q89_34 : z_m89.2.2.2.2.2.lookup 34 = some (.aload_n 0, 1) := by decide +kernel
theorem q89_35 : z_m89.2.2.2.2.2.lookup 35 = some (.getfield 37, 3) := by decide +kernel
theorem q89_38 : z_m89.2.2.2.2.2.lookup 38 = some (.getfield 228, 3) := by decide +kernel
theorem q89_41 : z_m89.2.2.2.2.2.lookup 41 = some (.bipush 20, 2) := by decide +kernel
theorem q89_43 : z_m89.2.2.2.2.2.lookup 43 = some (.if_icmp .lt 6, 3) := by decide +kernel
theorem q89_46 : z_m89.2.2.2.2.2.lookup 46 = some (.bipush (-4), 2) := by decide +kernel
theorem q89_48 : z_m89.2.2.2.2.2.lookup 48 = some (.ireturn, 1) := by decide +kernel
theorem q89_49 : z_m89.2.2.2.2.2.lookup 49 = some (.aload_n 0, 1) := by decide +kernel
theorem q89_50 : z_m89.2.2.2.2.2.lookup 50 = some (.getfield 37, 3) := by decide +kernel
theorem q89_53 : z_m89.2.2.2.2.2.lookup 53 = some (.iload_n 1, 1) := by decide +kernel
theorem q89_54 : z_m89.2.2.2.2.2.lookup 54 = some (.iload_n 2, 1) := by decide +kernel
theorem q89_55 : z_m89.2.2.2.2.2.lookup 55 = some (.iload_n 3, 1) := by decide +kernel
theorem q89_56 : z_m89.2.2.2.2.2.lookup 56 = some (.invokevirtual 229, 3) := by decide +kernel
theorem q89_59 : z_m89.2.2.2.2.2.lookup 59 = some (.ireturn, 1) := by decide +kernel
theorem q90_0 : z_m90.2.2.2.2.2.lookup 0 = some (.iload_n 1, 1) := by decide +kernel
theorem q90_1 : z_m90.2.2.2.2.2.lookup 1 = some (.invokestatic 135, 3) := by decide +kernel
theorem q90_4 : z_m90.2.2.2.2.2.lookup 4 = some (.ifCond .eq 22, 3) := by decide +kernel
theorem q90_7 : z_m90.2.2.2.2.2.lookup 7 = some (.iload_n 2, 1) := by decide +kernel
theorem q90_8 : z_m90.2.2.2.2.2.lookup 8 = some (.invokestatic 215, 3) := by decide +kernel
theorem q90_11 : z_m90.2.2.2.2.2.lookup 11 = some (.ifCond .eq 15, 3) := by decide +kernel
theorem q90_14 : z_m90.2.2.2.2.2.lookup 14 = some (.aload_n 0, 1) := by decide +kernel
theorem q90_15 : z_m90.2.2.2.2.2.lookup 15 = some (.getfield 37, 3) := by decide +kernel
theorem q90_18 : z_m90.2.2.2.2.2.lookup 18 = some (.iload_n 1, 1) := by decide +kernel
theorem q90_19 : z_m90.2.2.2.2.2.lookup 19 = some (.iload_n 2, 1) := by decide +kernel
theorem q90_20 : z_m90.2.2.2.2.2.lookup 20 = some (.invokevirtual 232, 3) := by decide +kernel
theorem q90_23 : z_m90.2.2.2.2.2.lookup 23 = some (.goto 5, 3) := by decide +kernel
theorem q90_26 : z_m90.2.2.2.2.2.lookup 26 = some (.bipush (-2), 2) := by decide +kernel
theorem q90_28 : z_m90.2.2.2.2.2.lookup 28 = some (.ireturn, 1) := by decide +kernel
theorem q91_0 : z_m91.2.2.2.2.2.lookup 0 = some (.aload_n 0, 1) := by decide +kernel
theorem q91_1 : z_m91.2.2.2.2.2.lookup 1 = some (.getfield 10, 3) := by decide +kernel
theorem q91_4 : z_m91.2.2.2.2.2.lookup 4 = some (.iload_n 1, 1) := by decide +kernel
theorem q91_5 : z_m91.2.2.2.2.2.lookup 5 = some (.invokevirtual 153, 3) := by decide +kernel
theorem q91_8 : z_m91.2.2.2.2.2.lookup 8 = some (.ifCond .eq 12, 3) := by decide +kernel
theorem q91_11 : z_m91.2.2.2.2.2.lookup 11 = some (.iload_n 2, 1) := by decide +kernel
theorem q91_12 : z_m91.2.2.2.2.2.lookup 12 = some (.iconst 0, 1) := by decide +kernel
theorem q91_13 : z_m91.2.2.2.2.2.lookup 13 = some (.iconst 2, 1) := by decide +kernel
theorem q91_14 : z_m91.2.2.2.2.2.lookup 14 = some (.invokestatic 128, 3) := by decide +kernel
theorem q91_17 : z_m91.2.2.2.2.2.lookup 17 = some (.ifCond .ne 7, 3) := by decide +kernel
theorem q91_20 : z_m91.2.2.2.2.2.lookup 20 = some (.ldc2_w 235, 3) := by decide +kernel
theorem q91_23 : z_m91.2.2.2.2.2.lookup 23 = some (.lreturn, 1) := by decide +kernel
theorem q91_24 : z_m91.2.2.2.2.2.lookup 24 = some (.aload_n 0, 1) := by decide +kernel
theorem q91_25 : z_m91.2.2.2.2.2.lookup 25 = some (.iload_n 1, 1) := by decide +kernel
theorem q91_26 : z_m91.2.2.2.2.2.lookup 26 = some (.iload_n 2, 1) := by decide +kernel
theorem q91_27 : z_m91.2.2.2.2.2.lookup 27 = some (.invokevirtual 237, 3) := by decide +kernel
theorem q91_30 : z_m91.2.2.2.2.2.lookup 30 = some (.i2l, 1) := by decide +kernel
theorem q91_31 : z_m91.2.2.2.2.2.lookup 31 = some (.lreturn, 1) := by decide +kernel
theorem q92_0 : z_m92.2.2.2.2.2.lookup 0 = some (.aload_n 0, 1) := by decide +kernel
theorem q92_1 : z_m92.2.2.2.2.2.lookup 1 = some (.getfield 10, 3) := by decide +kernel
theorem q92_4 : z_m92.2.2.2.2.2.lookup 4 = some (.getfield 159, 3) := by decide +kernel
theorem q92_7 : z_m92.2.2.2.2.2.lookup 7 = some (.iload_n 1, 1) := by decide +kernel
theorem q92_8 : z_m92.2.2.2.2.2.lookup 8 = some (.iaload, 1) := by decide +kernel
theorem q92_9 : z_m92.2.2.2.2.2.lookup 9 = some (.istore_n 3, 1) := by decide +kernel
theorem q92_10 : z_m92.2.2.2.2.2.lookup 10 = some (.aload_n 0, 1) := by decide +kernel
theorem q92_11 : z_m92.2.2.2.2.2.lookup 11 = some (.getfield 10, 3) := by decide +kernel
theorem q92_14 : z_m92.2.2.2.2.2.lookup 14 = some (.getfield 182, 3) := by decide +kernel
theorem q92_17 : z_m92.2.2.2.2.2.lookup 17 = some (.iload_n 1, 1) := by decide +kernel
theorem q92_18 : z_m92.2.2.2.2.2.lookup 18 = some (.iaload, 1) := by decide +kernel
theorem q92_19 : z_m92.2.2.2.2.2.lookup 19 = some (.istore 4, 2) := by decide +kernel
theorem q92_21 : z_m92.2.2.2.2.2.lookup 21 = some (.aload_n 0, 1) := by decide +kernel
theorem q92_22 : z_m92.2.2.2.2.2.lookup 22 = some (.getfield 41, 3) := by decide +kernel
theorem q92_25 : z_m92.2.2.2.2.2.lookup 25 = some (.iconst 0, 1) := by decide +kernel
theorem q92_26 : z_m92.2.2.2.2.2.lookup 26 = some (.aload_n 0, 1) := by decide +kernel
theorem q92_27 : z_m92.2.2.2.2.2.lookup 27 = some (.getfield 10, 3) := by decide +kernel
theorem q92_30 : z_m92.2.2.2.2.2.lookup 30 = some (.getfield 165, 3) := by decide +kernel
theorem q92_33 : z_m92.2.2.2.2.2.lookup 33 = some (.iload_n 1, 1) := by decide +kernel
theorem q92_34 : z_m92.2.2.2.2.2.lookup 34 = some (.iaload, 1) := by decide +kernel
theorem q92_35 : z_m92.2.2.2.2.2.lookup 35 = some (.iastore, 1) := by decide +kernel
theorem q92_36 : z_m92.2.2.2.2.2.lookup 36 = some (.aload_n 0, 1) := by decide +kernel
theorem q92_37 : z_m92.2.2.2.2.2.lookup 37 = some (.getfield 41, 3) := by decide +kernel
theorem q92_40 : z_m92.2.2.2.2.2.lookup 40 = some (.iconst 1, 1) := by decide +kernel
theorem q92_41 : z_m92.2.2.2.2.2.lookup 41 = some (.iload 4, 2) := by decide +kernel
theorem q92_43 : z_m92.2.2.2.2.2.lookup 43 = some (.iastore, 1) := by decide +kernel
theorem q92_44 : z_m92.2.2.2.2.2.lookup 44 = some (.aload_n 0, 1) := by decide +kernel
theorem q92_45 : z_m92.2.2.2.2.2.lookup 45 = some (.getfield 41, 3) := by decide +kernel
theorem q92_48 : z_m92.2.2.2.2.2.lookup 48 = some (.iconst 2, 1) := by decide +kernel
theorem q92_49 : z_m92.2.2.2.2.2.lookup 49 = some (.aload_n 0, 1) := by decide +kernel
theorem q92_50 : z_m92.2.2.2.2.2.lookup 50 = some (.getfield 10, 3) := by decide +kernel
theorem q92_53 : z_m92.2.2.2.2.2.lookup 53 = some (.getfield 240, 3) := by decide +kernel
theorem q92_56 : z_m92.2.2.2.2.2.lookup 56 = some (.iload_n 1, 1) := by decide +kernel
theorem q92_57 : z_m92.2.2.2.2.2.lookup 57 = some (.iaload, 1) := by decide +kernel
theorem q92_58 : z_m92.2.2.2.2.2.lookup 58 = some (.iastore, 1) := by decide +kernel
theorem q92_59 : z_m92.2.2.2.2.2.lookup 59 = some (.aload_n 0, 1) := by decide +kernel
theorem q92_60 : z_m92.2.2.2.2.2.lookup 60 = some (.getfield 41, 3) := by decide +kernel
theorem q92_63 : z_m92.2.2.2.2.2.lookup 63 = some (.iconst 3, 1) := by decide +kernel
theorem q92_64 : z_m92.2.2.2.2.2.lookup 64 = some (.aload_n 0, 1) := by decide +kernel
theorem q92_65 : z_m92.2.2.2.2.2.lookup 65 = some (.getfield 10, 3) := by decide +kernel
theorem q92_68 : z_m92.2.2.2.2.2.lookup 68 = some (.getfield 156, 3) := by decide +kernel
theorem q92_71 : z_m92.2.2.2.2.2.lookup 71 = some (.iload_n 1, 1) := by decide +kernel
theorem q92_72 : z_m92.2.2.2.2.2.lookup 72 = some (.iaload, 1) := by decide +kernel
theorem q92_73 : z_m92.2.2.2.2.2.lookup 73 = some (.iastore, 1) := by decide +kernel
theorem q92_74 : z_m92.2.2.2.2.2.lookup 74 = some (.aload_n 0, 1) := by decide +kernel
theorem q92_75 : z_m92.2.2.2.2.2.lookup 75 = some (.getfield 41, 3) := by decide +kernel
theorem q92_78 : z_m92.2.2.2.2.2.lookup 78 = some (.iconst 4, 1) := by decide +kernel
theorem q92_79 : z_m92.2.2.2.2.2.lookup 79 = some (.aload_n 0, 1) := by decide +kernel
theorem q92_80 : z_m92.2.2.2.2.2.lookup 80 = some (.getfield 57, 3) := by decide +kernel
theorem q92_83 : z_m92.2.2.2.2.2.lookup 83 = some (.iload_n 3, 1) := by decide +kernel
theorem q92_84 : z_m92.2.2.2.2.2.lookup 84 = some (.iload 4, 2) := by decide +kernel
theorem q92_86 : z_m92.2.2.2.2.2.lookup 86 = some (.invokevirtual 243, 3) := by decide +kernel
theorem q92_89 : z_m92.2.2.2.2.2.lookup 89 = some (.iastore, 1) := by decide +kernel
theorem q92_90 : z_m92.2.2.2.2.2.lookup 90 = some (.aload_n 0, 1) := by decide +kernel
theorem q92_91 : z_m92.2.2.2.2.2.lookup 91 = some (.getfield 41, 3) := by decide +kernel
theorem q92_94 : z_m92.2.2.2.2.2.lookup 94 = some (.iconst 5, 1) := by decide +kernel
theorem q92_95 : z_m92.2.2.2.2.2.lookup 95 = some (.aload_n 0, 1) := by decide +kernel
theorem q92_96 : z_m92.2.2.2.2.2.lookup 96 = some (.getfield 23, 3) := by decide +kernel
theorem q92_99 : z_m92.2.2.2.2.2.lookup 99 = some (.iconst 0, 1) := by decide +kernel
theorem q92_100 : z_m92.2.2.2.2.2.lookup 100 = some (.iload 4, 2) := by decide +kernel
theorem q92_102 : z_m92.2.2.2.2.2.lookup 102 = some (.aload_n 0, 1) := by decide +kernel
theorem q92_103 : z_m92.2.2.2.2.2.lookup 103 = some (.getfield 132, 3) := by decide +kernel
theorem q92_106 : z_m92.2.2.2.2.2.lookup 106 = some (.invokevirtual 206, 3) := by decide +kernel
theorem q92_109 : z_m92.2.2.2.2.2.lookup 109 = some (.iastore, 1) := by decide +kernel
theorem q92_110 : z_m92.2.2.2.2.2.lookup 110 = some (.aload_n 0, 1) := by decide +kernel
theorem q92_111 : z_m92.2.2.2.2.2.lookup 111 = some (.getfield 37, 3) := by decide +kernel
theorem q92_114 : z_m92.2.2.2.2.2.lookup 114 = some (.getfield 111, 3) := by decide +kernel
theorem q92_117 : z_m92.2.2.2.2.2.lookup 117 = some (.aload_n 0, 1) := by decide +kernel
theorem q92_118 : z_m92.2.2.2.2.2.lookup 118 = some (.getfield 37, 3) := by decide +kernel
theorem q92_121 : z_m92.2.2.2.2.2.lookup 121 = some (.iload_n 3, 1) := by decide +kernel
theorem q92_122 : z_m92.2.2.2.2.2.lookup 122 = some (.iload 4, 2) := by decide +kernel
theorem q92_124 : z_m92.2.2.2.2.2.lookup 124 = some (.invokevirtual 232, 3) := by decide +kernel
theorem q92_127 : z_m92.2.2.2.2.2.lookup 127 = some (.aaload, 1) := by decide +kernel
theorem q92_128 : z_m92.2.2.2.2.2.lookup 128 = some (.iload_n 2, 1) := by decide +kernel
theorem q92_129 : z_m92.2.2.2.2.2.lookup 129 = some (.aload_n 0, 1) := by decide +kernel
theorem q92_130 : z_m92.2.2.2.2.2.lookup 130 = some (.getfield 41, 3) := by decide +kernel
theorem q92_133 : z_m92.2.2.2.2.2.lookup 133 = some (.aload_n 0, 1) := by decide +kernel
theorem q92_134 : z_m92.2.2.2.2.2.lookup 134 = some (.getfield 44, 3) := by decide +kernel
theorem q92_137 : z_m92.2.2.2.2.2.lookup 137 = some (.invokevirtual 246, 3) := by decide +kernel
theorem q92_140 : z_m92.2.2.2.2.2.lookup 140 = some (.ireturn, 1) := by decide +kernel
theorem q93_0 : z_m93.2.2.2.2.2.lookup 0 = some (.iload_n 1, 1) := by decide +kernel
theorem q93_1 : z_m93.2.2.2.2.2.lookup 1 = some (.invokestatic 135, 3) := by decide +kernel
theorem q93_4 : z_m93.2.2.2.2.2.lookup 4 = some (.ifCond .eq 11, 3) := by decide +kernel
theorem q93_7 : z_m93.2.2.2.2.2.lookup 7 = some (.iload_n 2, 1) := by decide +kernel
theorem q93_8 : z_m93.2.2.2.2.2.lookup 8 = some (.iload_n 3, 1) := by decide +kernel
theorem q93_9 : z_m93.2.2.2.2.2.lookup 9 = some (.invokestatic 250, 3) := by decide +kernel
theorem q93_12 : z_m93.2.2.2.2.2.lookup 12 = some (.ifCond .ne 7, 3) := by decide +kernel
theorem q93_15 : z_m93.2.2.2.2.2.lookup 15 = some (.ldc2_w 235, 3) := by decide +kernel
theorem q93_18 : z_m93.2.2.2.2.2.lookup 18 = some (.lreturn, 1) := by decide +kernel
theorem q93_19 : z_m93.2.2.2.2.2.lookup 19 = some (.lconst 0, 1) := by decide +kernel
theorem q93_20 : z_m93.2.2.2.2.2.lookup 20 = some (.lstore 4, 2) := by decide +kernel
theorem q93_22 : z_m93.2.2.2.2.2.lookup 22 = some (.iconst 0, 1) := by decide +kernel
theorem q93_23 : z_m93.2.2.2.2.2.lookup 23 = some (.istore 6, 2) := by decide +kernel
theorem q93_25 : z_m93.2.2.2.2.2.lookup 25 = some (.iload 6, 2) := by decide +kernel
theorem q93_27 : z_m93.2.2.2.2.2.lookup 27 = some (.aload_n 0, 1) := by decide +kernel
theorem q93_28 : z_m93.2.2.2.2.2.lookup 28 = some (.getfield 10, 3) := by decide +kernel
theorem q93_31 : z_m93.2.2.2.2.2.lookup 31 = some (.getfield 142, 3) := by decide +kernel
theorem q93_34 : z_m93.2.2.2.2.2.lookup 34 = some (.if_icmp .ge 54, 3) := by decide +kernel
theorem q93_37 : z_m93.2.2.2.2.2.lookup 37 = some (.aload_n 0, 1) := by decide +kernel
theorem q93_38 : z_m93.2.2.2.2.2.lookup 38 = some (.getfield 10, 3) := by decide +kernel
theorem q93_41 : z_m93.2.2.2.2.2.lookup 41 = some (.iload 6, 2) := by decide +kernel
theorem q93_43 : z_m93.2.2.2.2.2.lookup 43 = some (.iload_n 1, 1) := by decide +kernel
theorem q93_44 : z_m93.2.2.2.2.2.lookup 44 = some (.iload_n 2, 1) := by decide +kernel
theorem q93_45 : z_m93.2.2.2.2.2.lookup 45 = some (.iload_n 3, 1) := by decide +kernel
theorem q93_46 : z_m93.2.2.2.2.2.lookup 46 = some (.invokevirtual 253, 3) := by decide +kernel
theorem q93_49 : z_m93.2.2.2.2.2.lookup 49 = some (.ifCond .eq 33, 3) := by decide +kernel
theorem q93_52 : z_m93.2.2.2.2.2.lookup 52 = some (.lload 4, 2) := by decide +kernel
theorem q93_54 : z_m93.2.2.2.2.2.lookup 54 = some (.aload_n 0, 1) := by decide +kernel
theorem q93_55 : z_m93.2.2.2.2.2.lookup 55 = some (.iload 6, 2) := by decide +kernel
theorem q93_57 : z_m93.2.2.2.2.2.lookup 57 = some (.iconst 0, 1) := by decide +kernel
theorem q93_58 : z_m93.2.2.2.2.2.lookup 58 = some (.invokevirtual 237, 3) := by decide +kernel
theorem q93_61 : z_m93.2.2.2.2.2.lookup 61 = some (.i2l, 1) := by decide +kernel
theorem q93_62 : z_m93.2.2.2.2.2.lookup 62 = some (.ladd, 1) := by decide +kernel
theorem q93_63 : z_m93.2.2.2.2.2.lookup 63 = some (.lstore 4, 2) := by decide +kernel
theorem q93_65 : z_m93.2.2.2.2.2.lookup 65 = some (.lload 4, 2) := by decide +kernel
theorem q93_67 : z_m93.2.2.2.2.2.lookup 67 = some (.iconst 0, 1) := by decide +kernel
theorem q93_68 : z_m93.2.2.2.2.2.lookup 68 = some (.aload_n 0, 1) := by decide +kernel
theorem q93_69 : z_m93.2.2.2.2.2.lookup 69 = some (.iload 6, 2) := by decide +kernel
theorem q93_71 : z_m93.2.2.2.2.2.lookup 71 = some (.iconst 1, 1) := by decide +kernel
theorem q93_72 : z_m93.2.2.2.2.2.lookup 72 = some (.invokevirtual 237, 3) := by decide +kernel
theorem q93_75 : z_m93.2.2.2.2.2.lookup 75 = some (.invokestatic 257, 3) := by decide +kernel
theorem q93_78 : z_m93.2.2.2.2.2.lookup 78 = some (.i2l, 1) := by decide +kernel
theorem q93_79 : z_m93.2.2.2.2.2.lookup 79 = some (.lsub, 1) := by decide +kernel
theorem q93_80 : z_m93.2.2.2.2.2.lookup 80 = some (.lstore 4, 2) := by decide +kernel
theorem q93_82 : z_m93.2.2.2.2.2.lookup 82 = some (.iinc 6 1, 3) := by decide +kernel
theorem q93_85 : z_m93.2.2.2.2.2.lookup 85 = some (.goto (-60), 3) := by decide +kernel
theorem q93_88 : z_m93.2.2.2.2.2.lookup 88 = some (.lload 4, 2) := by decide +kernel
theorem q93_90 : z_m93.2.2.2.2.2.lookup 90 = some (.lreturn, 1) := by decide +kernel
theorem q94_0 : z_m94.2.2.2.2.2.lookup 0 = some (.aload_n 0, 1) := by decide +kernel
theorem q94_1 : z_m94.2.2.2.2.2.lookup 1 = some (.getfield 10, 3) := by decide +kernel
theorem q94_4 : z_m94.2.2.2.2.2.lookup 4 = some (.iload_n 1, 1) := by decide +kernel
theorem q94_5 : z_m94.2.2.2.2.2.lookup 5 = some (.invokevirtual 153, 3) := by decide +kernel
theorem q94_8 : z_m94.2.2.2.2.2.lookup 8 = some (.ifCond .eq 21, 3) := by decide +kernel
theorem q94_11 : z_m94.2.2.2.2.2.lookup 11 = some (.iload_n 2, 1) := by decide +kernel
theorem q94_12 : z_m94.2.2.2.2.2.lookup 12 = some (.invokestatic 262, 3) := by decide +kernel
theorem q94_15 : z_m94.2.2.2.2.2.lookup 15 = some (.ifCond .eq 14, 3) := by decide +kernel
theorem q94_18 : z_m94.2.2.2.2.2.lookup 18 = some (.iload_n 3, 1) := by decide +kernel
theorem q94_19 : z_m94.2.2.2.2.2.lookup 19 = some (.iconst 0, 1) := by decide +kernel
theorem q94_20 : z_m94.2.2.2.2.2.lookup 20 = some (.sipush 9999, 3) := by decide +kernel
theorem q94_23 : z_m94.2.2.2.2.2.lookup 23 = some (.invokestatic 128, 3) := by decide +kernel
theorem q94_26 : z_m94.2.2.2.2.2.lookup 26 = some (.ifCond .ne 6, 3) := by decide +kernel
theorem q94_29 : z_m94.2.2.2.2.2.lookup 29 = some (.bipush (-2), 2) := by decide +kernel
theorem q94_31 : z_m94.2.2.2.2.2.lookup 31 = some (.ireturn, 1) := by decide +kernel
theorem q94_32 : z_m94.2.2.2.2.2.lookup 32 = some (.aload_n 0, 1) := by decide +kernel
theorem q94_33 : z_m94.2.2.2.2.2.lookup 33 = some (.getfield 50, 3) := by decide +kernel
theorem q94_36 : z_m94.2.2.2.2.2.lookup 36 = some (.getfield 265, 3) := by decide +kernel
theorem q94_39 : z_m94.2.2.2.2.2.lookup 39 = some (.bipush 20, 2) := by decide +kernel
theorem q94_41 : z_m94.2.2.2.2.2.lookup 41 = some (.if_icmp .lt 6, 3) := by decide +kernel
theorem q94_44 : z_m94.2.2.2.2.2.lookup 44 = some (.bipush (-4), 2) := by decide +kernel
theorem q94_46 : z_m94.2.2.2.2.2.lookup 46 = some (.ireturn, 1) := by decide +kernel
theorem q94_47 : z_m94.2.2.2.2.2.lookup 47 = some (.aload_n 0, 1) := by decide +kernel
theorem q94_48 : z_m94.2.2.2.2.2.lookup 48 = some (.getfield 50, 3) := by decide +kernel
theorem q94_51 : z_m94.2.2.2.2.2.lookup 51 = some (.iload_n 1, 1) := by decide +kernel
theorem q94_52 : z_m94.2.2.2.2.2.lookup 52 = some (.iload_n 2, 1) := by decide +kernel
theorem q94_53 : z_m94.2.2.2.2.2.lookup 53 = some (.iload_n 3, 1) := by decide +kernel
theorem q94_54 : z_m94.2.2.2.2.2.lookup 54 = some (.invokevirtual 266, 3) := by decide +kernel
theorem q94_57 : z_m94.2.2.2.2.2.lookup 57 = some (.ireturn, 1) := by decide +kernel
theorem q95_0 : z_m95.2.2.2.2.2.lookup 0 = some (.iload_n 1, 1) := by decide +kernel
theorem q95_1 : z_m95.2.2.2.2.2.lookup 1 = some (.iconst 0, 1) := by decide +kernel
theorem q95_2 : z_m95.2.2.2.2.2.lookup 2 = some (.aload_n 0, 1) := by decide +kernel
theorem q95_3 : z_m95.2.2.2.2.2.lookup 3 = some (.getfield 50, 3) := by decide +kernel
theorem q95_6 : z_m95.2.2.2.2.2.lookup 6 = some (.getfield 265, 3) := by decide +kernel
theorem q95_9 : z_m95.2.2.2.2.2.lookup 9 = some (.iconst 1, 1) := by decide +kernel
theorem q95_10 : z_m95.2.2.2.2.2.lookup 10 = some (.isub, 1) := by decide +kernel
theorem q95_11 : z_m95.2.2.2.2.2.lookup 11 = some (.invokestatic 128, 3) := by decide +kernel
theorem q95_14 : z_m95.2.2.2.2.2.lookup 14 = some (.ifCond .eq 11, 3) := by decide +kernel
theorem q95_17 : z_m95.2.2.2.2.2.lookup 17 = some (.aload_n 0, 1) := by decide +kernel
theorem q95_18 : z_m95.2.2.2.2.2.lookup 18 = some (.iload_n 1, 1) := by decide +kernel
theorem q95_19 : z_m95.2.2.2.2.2.lookup 19 = some (.invokevirtual 268, 3) := by decide +kernel
theorem q95_22 : z_m95.2.2.2.2.2.lookup 22 = some (.goto 5, 3) := by decide +kernel
theorem q95_25 : z_m95.2.2.2.2.2.lookup 25 = some (.bipush (-2), 2) := by decide +kernel
theorem q95_27 : z_m95.2.2.2.2.2.lookup 27 = some (.ireturn, 1) := by decide +kernel
theorem q96_0 : z_m96.2.2.2.2.2.lookup 0 = some (.aload_n 0, 1) := by decide +kernel
theorem q96_1 : z_m96.2.2.2.2.2.lookup 1 = some (.aload_n 0, 1) := by decide +kernel
theorem q96_2 : z_m96.2.2.2.2.2.lookup 2 = some (.getfield 50, 3) := by decide +kernel
theorem q96_5 : z_m96.2.2.2.2.2.lookup 5 = some (.getfield 271, 3) := by decide +kernel
theorem q96_8 : z_m96.2.2.2.2.2.lookup 8 = some (.iload_n 1, 1) := by decide +kernel
theorem q96_9 : z_m96.2.2.2.2.2.lookup 9 = some (.iaload, 1) := by decide +kernel
theorem q96_10 : z_m96.2.2.2.2.2.lookup 10 = some (.iconst 2, 1) := by decide +kernel
theorem q96_11 : z_m96.2.2.2.2.2.lookup 11 = some (.invokevirtual 237, 3) := by decide +kernel
theorem q96_14 : z_m96.2.2.2.2.2.lookup 14 = some (.iconst 3, 1) := by decide +kernel
theorem q96_15 : z_m96.2.2.2.2.2.lookup 15 = some (.invokestatic 274, 3) := by decide +kernel
theorem q96_18 : z_m96.2.2.2.2.2.lookup 18 = some (.ireturn, 1) := by decide +kernel
theorem q97_0 : z_m97.2.2.2.2.2.lookup 0 = some (.iload_n 1, 1) := by decide +kernel
theorem q97_1 : z_m97.2.2.2.2.2.lookup 1 = some (.iconst 0, 1) := by decide +kernel
theorem q97_2 : z_m97.2.2.2.2.2.lookup 2 = some (.bipush 16, 2) := by decide +kernel
theorem q97_4 : z_m97.2.2.2.2.2.lookup 4 = some (.invokestatic 128, 3) := by decide +kernel
theorem q97_7 : z_m97.2.2.2.2.2.lookup 7 = some (.ifCond .ne 7, 3) := by decide +kernel
theorem q97_10 : z_m97.2.2.2.2.2.lookup 10 = some (.ldc2_w 235, 3) := by decide +kernel
theorem q97_13 : z_m97.2.2.2.2.2.lookup 13 = some (.lreturn, 1) := by decide +kernel
theorem q97_14 : z_m97.2.2.2.2.2.lookup 14 = some (.lconst 0, 1) := by decide +kernel
theorem q97_15 : z_m97.2.2.2.2.2.lookup 15 = some (.lstore_n 2, 1) := by decide +kernel
theorem q97_16 : z_m97.2.2.2.2.2.lookup 16 = some (.iconst 0, 1) := by decide +kernel
theorem q97_17 : z_m97.2.2.2.2.2.lookup 17 = some (.istore 4, 2) := by decide +kernel
theorem q97_19 : z_m97.2.2.2.2.2.lookup 19 = some (.iload 4, 2) := by decide +kernel
theorem q97_21 : z_m97.2.2.2.2.2.lookup 21 = some (.aload_n 0, 1) := by decide +kernel
theorem q97_22 : z_m97.2.2.2.2.2.lookup 22 = some (.getfield 50, 3) := by decide +kernel
theorem q97_25 : z_m97.2.2.2.2.2.lookup 25 = some (.getfield 265, 3) := by decide +kernel
theorem q97_28 : z_m97.2.2.2.2.2.lookup 28 = some (.if_icmp .ge 33, 3) := by decide +kernel
theorem q97_31 : z_m97.2.2.2.2.2.lookup 31 = some (.aload_n 0, 1) := by decide +kernel
theorem q97_32 : z_m97.2.2.2.2.2.lookup 32 = some (.iload 4, 2) := by decide +kernel
theorem q97_34 : z_m97.2.2.2.2.2.lookup 34 = some (.invokevirtual 277, 3) := by decide +kernel
theorem q97_37 : z_m97.2.2.2.2.2.lookup 37 = some (.iload_n 1, 1) := by decide +kernel
theorem q97_38 : z_m97.2.2.2.2.2.lookup 38 = some (.if_icmp .ne 17, 3) := by decide +kernel
theorem q97_41 : z_m97.2.2.2.2.2.lookup 41 = some (.lload_n 2, 1) := by decide +kernel
theorem q97_42 : z_m97.2.2.2.2.2.lookup 42 = some (.aload_n 0, 1) := by decide +kernel
theorem q97_43 : z_m97.2.2.2.2.2.lookup 43 = some (.getfield 50, 3) := by decide +kernel
theorem q97_46 : z_m97.2.2.2.2.2.lookup 46 = some (.getfield 280, 3) := by decide +kernel
theorem q97_49 : z_m97.2.2.2.2.2.lookup 49 = some (.iload 4, 2) := by decide +kernel
theorem q97_51 : z_m97.2.2.2.2.2.lookup 51 = some (.iaload, 1) := by decide +kernel
theorem q97_52 : z_m97.2.2.2.2.2.lookup 52 = some (.i2l, 1) := by decide +kernel
theorem q97_53 : z_m97.2.2.2.2.2.lookup 53 = some (.ladd, 1) := by decide +kernel
theorem q97_54 : z_m97.2.2.2.2.2.lookup 54 = some (.lstore_n 2, 1) := by decide +kernel
theorem q97_55 : z_m97.2.2.2.2.2.lookup 55 = some (.iinc 4 1, 3) := by decide +kernel
theorem q97_58 : z_m97.2.2.2.2.2.lookup 58 = some (.goto (-39), 3) := by decide +kernel
theorem q97_61 : z_m97.2.2.2.2.2.lookup 61 = some (.lload_n 2, 1) := by decide +kernel
theorem q97_62 : z_m97.2.2.2.2.2.lookup 62 = some (.lreturn, 1) := by decide +kernel
theorem q98_0 : z_m98.2.2.2.2.2.lookup 0 = some (.aload_n 0, 1) := by decide +kernel
theorem q98_1 : z_m98.2.2.2.2.2.lookup 1 = some (.iload_n 1, 1) := by decide +kernel
theorem q98_2 : z_m98.2.2.2.2.2.lookup 2 = some (.invokevirtual 268, 3) := by decide +kernel
theorem q98_5 : z_m98.2.2.2.2.2.lookup 5 = some (.istore_n 2, 1) := by decide +kernel
theorem q98_6 : z_m98.2.2.2.2.2.lookup 6 = some (.iload_n 2, 1) := by decide +kernel
theorem q98_7 : z_m98.2.2.2.2.2.lookup 7 = some (.ifCond .ne 13, 3) := by decide +kernel
theorem q98_10 : z_m98.2.2.2.2.2.lookup 10 = some (.aload_n 0, 1) := by decide +kernel
theorem q98_11 : z_m98.2.2.2.2.2.lookup 11 = some (.getfield 50, 3) := by decide +kernel
theorem q98_14 : z_m98.2.2.2.2.2.lookup 14 = some (.getfield 283, 3) := by decide +kernel
theorem q98_17 : z_m98.2.2.2.2.2.lookup 17 = some (.iload_n 1, 1) := by decide +kernel
theorem q98_18 : z_m98.2.2.2.2.2.lookup 18 = some (.iaload, 1) := by decide +kernel
theorem q98_19 : z_m98.2.2.2.2.2.lookup 19 = some (.ireturn, 1) := by decide +kernel
theorem q98_20 : z_m98.2.2.2.2.2.lookup 20 = some (.iload_n 2, 1) := by decide +kernel
theorem q98_21 : z_m98.2.2.2.2.2.lookup 21 = some (.iconst 1, 1) := by decide +kernel
theorem q98_22 : z_m98.2.2.2.2.2.lookup 22 = some (.if_icmp .ne 8, 3) := by decide +kernel
theorem q98_25 : z_m98.2.2.2.2.2.lookup 25 = some (.bipush 10, 2) := by decide +kernel
theorem q98_27 : z_m98.2.2.2.2.2.lookup 27 = some (.goto 23, 3) := by decide +kernel
theorem q98_30 : z_m98.2.2.2.2.2.lookup 30 = some (.bipush 11, 2) := by decide +kernel
theorem q98_32 : z_m98.2.2.2.2.2.lookup 32 = some (.aload_n 0, 1) := by decide +kernel
theorem q98_33 : z_m98.2.2.2.2.2.lookup 33 = some (.getfield 10, 3) := by decide +kernel
theorem q98_36 : z_m98.2.2.2.2.2.lookup 36 = some (.getfield 159, 3) := by decide +kernel
theorem q98_39 : z_m98.2.2.2.2.2.lookup 39 = some (.aload_n 0, 1) := by decide +kernel
theorem q98_40 : z_m98.2.2.2.2.2.lookup 40 = some (.getfield 50, 3) := by decide +kernel
theorem q98_43 : z_m98.2.2.2.2.2.lookup 43 = some (.getfield 271, 3) := by decide +kernel
theorem q98_46 : z_m98.2.2.2.2.2.lookup 46 = some (.iload_n 1, 1) := by decide +kernel
theorem q98_47 : z_m98.2.2.2.2.2.lookup 47 = some (.iaload, 1) := by decide +kernel
theorem q98_48 : z_m98.2.2.2.2.2.lookup 48 = some (.iaload, 1) := by decide +kernel
theorem q98_49 : z_m98.2.2.2.2.2.lookup 49 = some (.iadd, 1) := by decide +kernel
theorem q98_50 : z_m98.2.2.2.2.2.lookup 50 = some (.ireturn, 1) := by decide +kernel
theorem q99_0 : z_m99.2.2.2.2.2.lookup 0 = some (.iload_n 1, 1) := by decide +kernel
theorem q99_1 : z_m99.2.2.2.2.2.lookup 1 = some (.invokestatic 135, 3) := by decide +kernel
theorem q99_4 : z_m99.2.2.2.2.2.lookup 4 = some (.ifCond .eq 14, 3) := by decide +kernel
theorem q99_7 : z_m99.2.2.2.2.2.lookup 7 = some (.iload_n 2, 1) := by decide +kernel
theorem q99_8 : z_m99.2.2.2.2.2.lookup 8 = some (.iconst 1, 1) := by decide +kernel
theorem q99_9 : z_m99.2.2.2.2.2.lookup 9 = some (.sipush 999, 3) := by decide +kernel
theorem q99_12 : z_m99.2.2.2.2.2.lookup 12 = some (.invokestatic 128, 3) := by decide +kernel
theorem q99_15 : z_m99.2.2.2.2.2.lookup 15 = some (.ifCond .ne 6, 3) := by decide +kernel
theorem q99_18 : z_m99.2.2.2.2.2.lookup 18 = some (.bipush (-2), 2) := by decide +kernel
theorem q99_20 : z_m99.2.2.2.2.2.lookup 20 = some (.ireturn, 1) := by decide +kernel
theorem q99_21 : z_m99.2.2.2.2.2.lookup 21 = some (.iload_n 3, 1) := by decide +kernel
theorem q99_22 : z_m99.2.2.2.2.2.lookup 22 = some (.iconst 0, 1) := by decide +kernel
theorem q99_23 : z_m99.2.2.2.2.2.lookup 23 = some (.iconst 5, 1) := by decide +kernel
theorem q99_24 : z_m99.2.2.2.2.2.lookup 24 = some (.invokestatic 128, 3) := by decide +kernel
theorem q99_27 : z_m99.2.2.2.2.2.lookup 27 = some (.ifCond .eq 15, 3) := by decide +kernel
theorem q99_30 : z_m99.2.2.2.2.2.lookup 30 = some (.iload 4, 2) := by decide +kernel
theorem q99_32 : z_m99.2.2.2.2.2.lookup 32 = some (.iconst 0, 1) := by decide +kernel
theorem q99_33 : z_m99.2.2.2.2.2.lookup 33 = some (.sipush 9999, 3) := by decide +kernel
theorem q99_36 : z_m99.2.2.2.2.2.lookup 36 = some (.invokestatic 128, 3) := by decide +kernel
theorem q99_39 : z_m99.2.2.2.2.2.lookup 39 = some (.ifCond .ne 6, 3) := by decide +kernel
theorem q99_42 : z_m99.2.2.2.2.2.lookup 42 = some (.bipush (-2), 2) := by decide +kernel
theorem q99_44 : z_m99.2.2.2.2.2.lookup 44 = some (.ireturn, 1) := by decide +kernel
theorem q99_45 : z_m99.2.2.2.2.2.lookup 45 = some (.aload_n 0, 1) := by decide +kernel
theorem q99_46 : z_m99.2.2.2.2.2.lookup 46 = some (.getfield 57, 3) := by decide +kernel
theorem q99_49 : z_m99.2.2.2.2.2.lookup 49 = some (.getfield 286, 3) := by decide +kernel
theorem q99_52 : z_m99.2.2.2.2.2.lookup 52 = some (.bipush 12, 2) := by decide +kernel
theorem q99_54 : z_m99.2.2.2.2.2.lookup 54 = some (.if_icmp .lt 6, 3) := by decide +kernel
theorem q99_57 : z_m99.2.2.2.2.2.lookup 57 = some (.bipush (-4), 2) := by decide +kernel
theorem q99_59 : z_m99.2.2.2.2.2.lookup 59 = some (.ireturn, 1) := by decide +kernel
theorem q99_60 : z_m99.2.2.2.2.2.lookup 60 = some (.aload_n 0, 1) := by decide +kernel
theorem q99_61 : z_m99.2.2.2.2.2.lookup 61 = some (.getfield 57, 3) := by decide +kernel
theorem q99_64 : z_m99.2.2.2.2.2.lookup 64 = some (.iload_n 1, 1) := by decide +kernel
theorem q99_65 : z_m99.2.2.2.2.2.lookup 65 = some (.iload_n 2, 1) := by decide +kernel
theorem q99_66 : z_m99.2.2.2.2.2.lookup 66 = some (.iload_n 3, 1) := by decide +kernel
theorem q99_67 : z_m99.2.2.2.2.2.lookup 67 = some (.iload 4, 2) := by decide +kernel
theorem q99_69 : z_m99.2.2.2.2.2.lookup 69 = some (.invokevirtual 287, 3) := by decide +kernel
theorem q99_72 : z_m99.2.2.2.2.2.lookup 72 = some (.ireturn, 1) := by decide +kernel
theorem q100_0 : z_m100.2.2.2.2.2.lookup 0 = some (.iload_n 1, 1) := by decide +kernel
theorem q100_1 : z_m100.2.2.2.2.2.lookup 1 = some (.iconst 0, 1) := by decide +kernel
theorem q100_2 : z_m100.2.2.2.2.2.lookup 2 = some (.aload_n 0, 1) := by decide +kernel
theorem q100_3 : z_m100.2.2.2.2.2.lookup 3 = some (.getfield 57, 3) := by decide +kernel
theorem q100_6 : z_m100.2.2.2.2.2.lookup 6 = some (.getfield 286, 3) := by decide +kernel
theorem q100_9 : z_m100.2.2.2.2.2.lookup 9 = some (.iconst 1, 1) := by decide +kernel
theorem q100_10 : z_m100.2.2.2.2.2.lookup 10 = some (.isub, 1) := by decide +kernel
theorem q100_11 : z_m100.2.2.2.2.2.lookup 11 = some (.invokestatic 128, 3) := by decide +kernel
theorem q100_14 : z_m100.2.2.2.2.2.lookup 14 = some (.ifCond .ne 6, 3) := by decide +kernel
theorem q100_17 : z_m100.2.2.2.2.2.lookup 17 = some (.bipush (-2), 2) := by decide +kernel
theorem q100_19 : z_m100.2.2.2.2.2.lookup 19 = some (.ireturn, 1) := by decide +kernel
theorem q100_20 : z_m100.2.2.2.2.2.lookup 20 = some (.aload_n 0, 1) := by decide +kernel
theorem q100_21 : z_m100.2.2.2.2.2.lookup 21 = some (.getfield 57, 3) := by decide +kernel
theorem q100_24 : z_m100.2.2.2.2.2.lookup 24 = some (.getfield 289, 3) := by decide +kernel
theorem q100_27 : z_m100.2.2.2.2.2.lookup 27 = some (.iload_n 1, 1) := by decide +kernel
theorem q100_28 : z_m100.2.2.2.2.2.lookup 28 = some (.iaload, 1) := by decide +kernel
theorem q100_29 : z_m100.2.2.2.2.2.lookup 29 = some (.aload_n 0, 1) := by decide +kernel
theorem q100_30 : z_m100.2.2.2.2.2.lookup 30 = some (.getfield 132, 3) := by decide +kernel
theorem q100_33 : z_m100.2.2.2.2.2.lookup 33 = some (.bipush 6, 2) := by decide +kernel
theorem q100_35 : z_m100.2.2.2.2.2.lookup 35 = some (.irem, 1) := by decide +kernel
theorem q100_36 : z_m100.2.2.2.2.2.lookup 36 = some (.if_icmp .ne 18, 3) := by decide +kernel
theorem q100_39 : z_m100.2.2.2.2.2.lookup 39 = some (.aload_n 0, 1) := by decide +kernel
theorem q100_40 : z_m100.2.2.2.2.2.lookup 40 = some (.getfield 57, 3) := by decide +kernel
theorem q100_43 : z_m100.2.2.2.2.2.lookup 43 = some (.iload_n 1, 1) := by decide +kernel
theorem q100_44 : z_m100.2.2.2.2.2.lookup 44 = some (.aload_n 0, 1) := by decide +kernel
theorem q100_45 : z_m100.2.2.2.2.2.lookup 45 = some (.getfield 132, 3) := by decide +kernel
theorem q100_48 : z_m100.2.2.2.2.2.lookup 48 = some (.invokevirtual 292, 3) := by decide +kernel
theorem q100_51 : z_m100.2.2.2.2.2.lookup 51 = some (.ifCond .eq 6, 3) := by decide +kernel
theorem q100_54 : z_m100.2.2.2.2.2.lookup 54 = some (.bipush (-3), 2) := by decide +kernel
theorem q100_56 : z_m100.2.2.2.2.2.lookup 56 = some (.ireturn, 1) := by decide +kernel
theorem q100_57 : z_m100.2.2.2.2.2.lookup 57 = some (.aload_n 0, 1) := by decide +kernel
theorem q100_58 : z_m100.2.2.2.2.2.lookup 58 = some (.getfield 57, 3) := by decide +kernel
theorem q100_61 : z_m100.2.2.2.2.2.lookup 61 = some (.getfield 295, 3) := by decide +kernel
theorem q100_64 : z_m100.2.2.2.2.2.lookup 64 = some (.bipush 60, 2) := by decide +kernel
theorem q100_66 : z_m100.2.2.2.2.2.lookup 66 = some (.if_icmp .lt 6, 3) := by decide +kernel
theorem q100_69 : z_m100.2.2.2.2.2.lookup 69 = some (.bipush (-4), 2) := by decide +kernel
theorem q100_71 : z_m100.2.2.2.2.2.lookup 71 = some (.ireturn, 1) := by decide +kernel
theorem q100_72 : z_m100.2.2.2.2.2.lookup 72 = some (.aload_n 0, 1) := by decide +kernel
theorem q100_73 : z_m100.2.2.2.2.2.lookup 73 = some (.getfield 57, 3) := by decide +kernel
theorem q100_76 : z_m100.2.2.2.2.2.lookup 76 = some (.iload_n 1, 1) := by decide +kernel
theorem q100_77 : z_m100.2.2.2.2.2.lookup 77 = some (.aload_n 0, 1) := by decide +kernel
theorem q100_78 : z_m100.2.2.2.2.2.lookup 78 = some (.getfield 132, 3) := by decide +kernel
theorem q100_81 : z_m100.2.2.2.2.2.lookup 81 = some (.invokevirtual 298, 3) := by decide +kernel
theorem q100_84 : z_m100.2.2.2.2.2.lookup 84 = some (.aload_n 0, 1) := by decide +kernel
theorem q100_85 : z_m100.2.2.2.2.2.lookup 85 = some (.getfield 57, 3) := by decide +kernel
theorem q100_88 : z_m100.2.2.2.2.2.lookup 88 = some (.aload_n 0, 1) := by decide +kernel
theorem q100_89 : z_m100.2.2.2.2.2.lookup 89 = some (.getfield 57, 3) := by decide +kernel
theorem q100_92 : z_m100.2.2.2.2.2.lookup 92 = some (.getfield 302, 3) := by decide +kernel
theorem q100_95 : z_m100.2.2.2.2.2.lookup 95 = some (.iload_n 1, 1) := by decide +kernel
theorem q100_96 : z_m100.2.2.2.2.2.lookup 96 = some (.iaload, 1) := by decide +kernel
theorem q100_97 : z_m100.2.2.2.2.2.lookup 97 = some (.aload_n 0, 1) := by decide +kernel
theorem q100_98 : z_m100.2.2.2.2.2.lookup 98 = some (.getfield 132, 3) := by decide +kernel
theorem q100_101 : z_m100.2.2.2.2.2.lookup 101 = some (.invokevirtual 243, 3) := by decide +kernel
theorem q100_104 : z_m100.2.2.2.2.2.lookup 104 = some (.ireturn, 1) := by decide +kernel
theorem q101_0 : z_m101.2.2.2.2.2.lookup 0 = some (.iload_n 1, 1) := by decide +kernel
theorem q101_1 : z_m101.2.2.2.2.2.lookup 1 = some (.iconst 0, 1) := by decide +kernel
theorem q101_2 : z_m101.2.2.2.2.2.lookup 2 = some (.iconst 5, 1) := by decide +kernel
theorem q101_3 : z_m101.2.2.2.2.2.lookup 3 = some (.invokestatic 128, 3) := by decide +kernel
theorem q101_6 : z_m101.2.2.2.2.2.lookup 6 = some (.ifCond .eq 14, 3) := by decide +kernel
theorem q101_9 : z_m101.2.2.2.2.2.lookup 9 = some (.iload_n 2, 1) := by decide +kernel
theorem q101_10 : z_m101.2.2.2.2.2.lookup 10 = some (.iconst 1, 1) := by decide +kernel
theorem q101_11 : z_m101.2.2.2.2.2.lookup 11 = some (.sipush 9999, 3) := by decide +kernel
theorem q101_14 : z_m101.2.2.2.2.2.lookup 14 = some (.invokestatic 128, 3) := by decide +kernel
theorem q101_17 : z_m101.2.2.2.2.2.lookup 17 = some (.ifCond .ne 6, 3) := by decide +kernel
theorem q101_20 : z_m101.2.2.2.2.2.lookup 20 = some (.bipush (-2), 2) := by decide +kernel
theorem q101_22 : z_m101.2.2.2.2.2.lookup 22 = some (.ireturn, 1) := by decide +kernel
theorem q101_23 : z_m101.2.2.2.2.2.lookup 23 = some (.iload_n 3, 1) := by decide +kernel
theorem q101_24 : z_m101.2.2.2.2.2.lookup 24 = some (.iconst 0, 1) := by decide +kernel
theorem q101_25 : z_m101.2.2.2.2.2.lookup 25 = some (.ldc 188, 2) := by decide +kernel
theorem q101_27 : z_m101.2.2.2.2.2.lookup 27 = some (.invokestatic 128, 3) := by decide +kernel
theorem q101_30 : z_m101.2.2.2.2.2.lookup 30 = some (.ifCond .eq 16, 3) := by decide +kernel
theorem q101_33 : z_m101.2.2.2.2.2.lookup 33 = some (.aload_n 0, 1) := by decide +kernel
theorem q101_34 : z_m101.2.2.2.2.2.lookup 34 = some (.getfield 57, 3) := by decide +kernel
theorem q101_37 : z_m101.2.2.2.2.2.lookup 37 = some (.iload_n 1, 1) := by decide +kernel
theorem q101_38 : z_m101.2.2.2.2.2.lookup 38 = some (.iload_n 2, 1) := by decide +kernel
theorem q101_39 : z_m101.2.2.2.2.2.lookup 39 = some (.iload_n 3, 1) := by decide +kernel
theorem q101_40 : z_m101.2.2.2.2.2.lookup 40 = some (.invokevirtual 303, 3) := by decide +kernel
theorem q101_43 : z_m101.2.2.2.2.2.lookup 43 = some (.goto 5, 3) := by decide +kernel
theorem q101_46 : z_m101.2.2.2.2.2.lookup 46 = some (.bipush (-2), 2) := by decide +kernel
theorem q101_48 : z_m101.2.2.2.2.2.lookup 48 = some (.ireturn, 1) := by decide +kernel
theorem q102_0 : z_m102.2.2.2.2.2.lookup 0 = some (.iload_n 1, 1) := by decide +kernel
theorem q102_1 : z_m102.2.2.2.2.2.lookup 1 = some (.iconst 0, 1) := by decide +kernel
theorem q102_2 : z_m102.2.2.2.2.2.lookup 2 = some (.sipush 999, 3) := by decide +kernel
theorem q102_5 : z_m102.2.2.2.2.2.lookup 5 = some (.invokestatic 128, 3) := by decide +kernel
theorem q102_8 : z_m102.2.2.2.2.2.lookup 8 = some (.ifCond .eq 14, 3) := by decide +kernel
theorem q102_11 : z_m102.2.2.2.2.2.lookup 11 = some (.iload_n 2, 1) := by decide +kernel
theorem q102_12 : z_m102.2.2.2.2.2.lookup 12 = some (.iconst 0, 1) := by decide +kernel
theorem q102_13 : z_m102.2.2.2.2.2.lookup 13 = some (.sipush 999, 3) := by decide +kernel
theorem q102_16 : z_m102.2.2.2.2.2.lookup 16 = some (.invokestatic 128, 3) := by decide +kernel
theorem q102_19 : z_m102.2.2.2.2.2.lookup 19 = some (.ifCond .ne 6, 3) := by decide +kernel
theorem q102_22 : z_m102.2.2.2.2.2.lookup 22 = some (.bipush (-2), 2) := by decide +kernel
theorem q102_24 : z_m102.2.2.2.2.2.lookup 24 = some (.ireturn, 1) := by decide +kernel
theorem q102_25 : z_m102.2.2.2.2.2.lookup 25 = some (.aload_n 0, 1) := by decide +kernel
theorem q102_26 : z_m102.2.2.2.2.2.lookup 26 = some (.getfield 306, 3) := by decide +kernel
theorem q102_29 : z_m102.2.2.2.2.2.lookup 29 = some (.iconst 5, 1) := by decide +kernel
theorem q102_30 : z_m102.2.2.2.2.2.lookup 30 = some (.if_icmp .lt 6, 3) := by decide +kernel
theorem q102_33 : z_m102.2.2.2.2.2.lookup 33 = some (.bipush (-4), 2) := by decide +kernel
theorem q102_35 : z_m102.2.2.2.2.2.lookup 35 = some (.ireturn, 1) := by decide +kernel
theorem q102_36 : z_m102.2.2.2.2.2.lookup 36 = some (.aload_n 0, 1) := by decide +kernel
theorem q102_37 : z_m102.2.2.2.2.2.lookup 37 = some (.getfield 61, 3) := by decide +kernel
theorem q102_40 : z_m102.2.2.2.2.2.lookup 40 = some (.aload_n 0, 1) := by decide +kernel
theorem q102_41 : z_m102.2.2.2.2.2.lookup 41 = some (.getfield 306, 3) := by decide +kernel
theorem q102_44 : z_m102.2.2.2.2.2.lookup 44 = some (.iload_n 1, 1) := by decide +kernel
theorem q102_45 : z_m102.2.2.2.2.2.lookup 45 = some (.iastore, 1) := by decide +kernel
theorem q102_46 : z_m102.2.2.2.2.2.lookup 46 = some (.aload_n 0, 1) := by decide +kernel
theorem q102_47 : z_m102.2.2.2.2.2.lookup 47 = some (.getfield 64, 3) := by decide +kernel
theorem q102_50 : z_m102.2.2.2.2.2.lookup 50 = some (.aload_n 0, 1) := by decide +kernel
theorem q102_51 : z_m102.2.2.2.2.2.lookup 51 = some (.getfield 306, 3) := by decide +kernel
theorem q102_54 : z_m102.2.2.2.2.2.lookup 54 = some (.iload_n 2, 1) := by decide +kernel
theorem q102_55 : z_m102.2.2.2.2.2.lookup 55 = some (.iastore, 1) := by decide +kernel
theorem q102_56 : z_m102.2.2.2.2.2.lookup 56 = some (.aload_n 0, 1) := by decide +kernel
theorem q102_57 : z_m102.2.2.2.2.2.lookup 57 = some (.dup, 1) := by decide +kernel
theorem q102_58 : z_m102.2.2.2.2.2.lookup 58 = some (.getfield 306, 3) := by decide +kernel
theorem q102_61 : z_m102.2.2.2.2.2.lookup 61 = some (.iconst 1, 1) := by decide +kernel
theorem q102_62 : z_m102.2.2.2.2.2.lookup 62 = some (.iadd, 1) := by decide +kernel
theorem q102_63 : z_m102.2.2.2.2.2.lookup 63 = some (.putfield 306, 3) := by decide +kernel
theorem q102_66 : z_m102.2.2.2.2.2.lookup 66 = some (.aload_n 0, 1) := by decide +kernel
theorem q102_67 : z_m102.2.2.2.2.2.lookup 67 = some (.getfield 306, 3) := by decide +kernel
theorem q102_70 : z_m102.2.2.2.2.2.lookup 70 = some (.iconst 1, 1) := by decide +kernel
theorem q102_71 : z_m102.2.2.2.2.2.lookup 71 = some (.isub, 1) := by decide +kernel
theorem q102_72 : z_m102.2.2.2.2.2.lookup 72 = some (.ireturn, 1) := by decide +kernel
theorem q103_0 : z_m103.2.2.2.2.2.lookup 0 = some (.iload_n 1, 1) := by decide +kernel
theorem q103_1 : z_m103.2.2.2.2.2.lookup 1 = some (.invokestatic 135, 3) := by decide +kernel
theorem q103_4 : z_m103.2.2.2.2.2.lookup 4 = some (.ifCond .eq 26, 3) := by decide +kernel
theorem q103_7 : z_m103.2.2.2.2.2.lookup 7 = some (.iload_n 2, 1) := by decide +kernel
theorem q103_8 : z_m103.2.2.2.2.2.lookup 8 = some (.iload_n 3, 1) := by decide +kernel
theorem q103_9 : z_m103.2.2.2.2.2.lookup 9 = some (.invokestatic 250, 3) := by decide +kernel
theorem q103_12 : z_m103.2.2.2.2.2.lookup 12 = some (.ifCond .eq 18, 3) := by decide +kernel
theorem q103_15 : z_m103.2.2.2.2.2.lookup 15 = some (.iload 4, 2) := by decide +kernel
theorem q103_17 : z_m103.2.2.2.2.2.lookup 17 = some (.iconst (-1), 1) := by decide +kernel
theorem q103_18 : z_m103.2.2.2.2.2.lookup 18 = some (.aload_n 0, 1) := by decide +kernel
theorem q103_19 : z_m103.2.2.2.2.2.lookup 19 = some (.getfield 306, 3) := by decide +kernel
theorem q103_22 : z_m103.2.2.2.2.2.lookup 22 = some (.iconst 1, 1) := by decide +kernel
theorem q103_23 : z_m103.2.2.2.2.2.lookup 23 = some (.isub, 1) := by decide +kernel
theorem q103_24 : z_m103.2.2.2.2.2.lookup 24 = some (.invokestatic 128, 3) := by decide +kernel
theorem q103_27 : z_m103.2.2.2.2.2.lookup 27 = some (.ifCond .ne 7, 3) := by decide +kernel
theorem q103_30 : z_m103.2.2.2.2.2.lookup 30 = some (.ldc2_w 235, 3) := by decide +kernel
theorem q103_33 : z_m103.2.2.2.2.2.lookup 33 = some (.lreturn, 1) := by decide +kernel
theorem q103_34 : z_m103.2.2.2.2.2.lookup 34 = some (.iload 4, 2) := by decide +kernel
theorem q103_36 : z_m103.2.2.2.2.2.lookup 36 = some (.iconst (-1), 1) := by decide +kernel
theorem q103_37 : z_m103.2.2.2.2.2.lookup 37 = some (.if_icmp .eq 13, 3) := by decide +kernel
theorem q103_40 : z_m103.2.2.2.2.2.lookup 40 = some (.aload_n 0, 1) := by decide +kernel
theorem q103_41 : z_m103.2.2.2.2.2.lookup 41 = some (.iload 4, 2) := by decide +kernel
theorem q103_43 : z_m103.2.2.2.2.2.lookup 43 = some (.iload_n 1, 1) := by decide +kernel
theorem q103_44 : z_m103.2.2.2.2.2.lookup 44 = some (.iload_n 2, 1) := by decide +kernel
theorem q103_45 : z_m103.2.2.2.2.2.lookup 45 = some (.iload_n 3, 1) := by decide +kernel
theorem q103_46 : z_m103.2.2.2.2.2.lookup 46 = some (.invokevirtual 309, 3) := by decide +kernel
theorem q103_49 : z_m103.2.2.2.2.2.lookup 49 = some (.lreturn, 1) := by decide +kernel
theorem q103_50 : z_m103.2.2.2.2.2.lookup 50 = some (.lconst 0, 1) := by decide +kernel
theorem q103_51 : z_m103.2.2.2.2.2.lookup 51 = some (.lstore 5, 2) := by decide +kernel
theorem q103_53 : z_m103.2.2.2.2.2.lookup 53 = some (.iconst 0, 1) := by decide +kernel
theorem q103_54 : z_m103.2.2.2.2.2.lookup 54 = some (.istore 7, 2) := by decide +kernel
theorem q103_56 : z_m103.2.2.2.2.2.lookup 56 = some (.iload 7, 2) := by decide +kernel
theorem q103_58 : z_m103.2.2.2.2.2.lookup 58 = some (.aload_n 0, 1) := by decide +kernel
theorem q103_59 : z_m103.2.2.2.2.2.lookup 59 = some (.getfield 306, 3) := by decide +kernel
theorem q103_62 : z_m103.2.2.2.2.2.lookup 62 = some (.if_icmp .ge 37, 3) := by decide +kernel
theorem q103_65 : z_m103.2.2.2.2.2.lookup 65 = some (.aload_n 0, 1) := by decide +kernel
theorem q103_66 : z_m103.2.2.2.2.2.lookup 66 = some (.iload 7, 2) := by decide +kernel
theorem q103_68 : z_m103.2.2.2.2.2.lookup 68 = some (.iload_n 1, 1) := by decide +kernel
theorem q103_69 : z_m103.2.2.2.2.2.lookup 69 = some (.iload_n 2, 1) := by decide +kernel
theorem q103_70 : z_m103.2.2.2.2.2.lookup 70 = some (.iload_n 3, 1) := by decide +kernel
theorem q103_71 : z_m103.2.2.2.2.2.lookup 71 = some (.invokevirtual 309, 3) := by decide +kernel
theorem q103_74 : z_m103.2.2.2.2.2.lookup 74 = some (.lstore 8, 2) := by decide +kernel
theorem q103_76 : z_m103.2.2.2.2.2.lookup 76 = some (.iload 7, 2) := by decide +kernel
theorem q103_78 : z_m103.2.2.2.2.2.lookup 78 = some (.ifCond .eq 11, 3) := by decide +kernel
theorem q103_81 : z_m103.2.2.2.2.2.lookup 81 = some (.lload 8, 2) := by decide +kernel
theorem q103_83 : z_m103.2.2.2.2.2.lookup 83 = some (.lload 5, 2) := by decide +kernel
theorem q103_85 : z_m103.2.2.2.2.2.lookup 85 = some (.lcmp, 1) := by decide +kernel
theorem q103_86 : z_m103.2.2.2.2.2.lookup 86 = some (.ifCond .ge 7, 3) := by decide +kernel
theorem q103_89 : z_m103.2.2.2.2.2.lookup 89 = some (.lload 8, 2) := by decide +kernel
theorem q103_91 : z_m103.2.2.2.2.2.lookup 91 = some (.lstore 5, 2) := by decide +kernel
theorem q103_93 : z_m103.2.2.2.2.2.lookup 93 = some (.iinc 7 1, 3) := by decide +kernel
theorem q103_96 : z_m103.2.2.2.2.2.lookup 96 = some (.goto (-40), 3) := by decide +kernel
theorem q103_99 : z_m103.2.2.2.2.2.lookup 99 = some (.lload 5, 2) := by decide +kernel
theorem q103_101 : z_m103.2.2.2.2.2.lookup 101 = some (.lreturn, 1) := by decide +kernel
theorem q104_0 : z_m104.2.2.2.2.2.lookup 0 = some (.lconst 0, 1) := by decide +kernel
theorem q104_1 : z_m104.2.2.2.2.2.lookup 1 = some (.lstore 5, 2) := by decide +kernel
theorem q104_3 : z_m104.2.2.2.2.2.lookup 3 = some (.iconst 0, 1) := by decide +kernel
theorem q104_4 : z_m104.2.2.2.2.2.lookup 4 = some (.istore 7, 2) := by decide +kernel
theorem q104_6 : z_m104.2.2.2.2.2.lookup 6 = some (.iload 7, 2) := by decide +kernel
theorem q104_8 : z_m104.2.2.2.2.2.lookup 8 = some (.aload_n 0, 1) := by decide +kernel
theorem q104_9 : z_m104.2.2.2.2.2.lookup 9 = some (.getfield 10, 3) := by decide +kernel
theorem q104_12 : z_m104.2.2.2.2.2.lookup 12 = some (.getfield 142, 3) := by decide +kernel
theorem q104_15 : z_m104.2.2.2.2.2.lookup 15 = some (.if_icmp .ge 91, 3) := by decide +kernel
theorem q104_18 : z_m104.2.2.2.2.2.lookup 18 = some (.aload_n 0, 1) := by decide +kernel
theorem q104_19 : z_m104.2.2.2.2.2.lookup 19 = some (.getfield 10, 3) := by decide +kernel
theorem q104_22 : z_m104.2.2.2.2.2.lookup 22 = some (.iload 7, 2) := by decide +kernel
theorem q104_24 : z_m104.2.2.2.2.2.lookup 24 = some (.iload_n 2, 1) := by decide +kernel
theorem q104_25 : z_m104.2.2.2.2.2.lookup 25 = some (.iload_n 3, 1) := by decide +kernel
theorem q104_26 : z_m104.2.2.2.2.2.lookup 26 = some (.iload 4, 2) := by decide +kernel
theorem q104_28 : z_m104.2.2.2.2.2.lookup 28 = some (.invokevirtual 253, 3) := by decide +kernel
theorem q104_31 : z_m104.2.2.2.2.2.lookup 31 = some (.ifCond .eq 69, 3) := by decide +kernel
theorem q104_34 : z_m104.2.2.2.2.2.lookup 34 = some (.aload_n 0, 1) := by decide +kernel
theorem q104_35 : z_m104.2.2.2.2.2.lookup 35 = some (.getfield 10, 3) := by decide +kernel
theorem q104_38 : z_m104.2.2.2.2.2.lookup 38 = some (.getfield 313, 3) := by decide +kernel
theorem q104_41 : z_m104.2.2.2.2.2.lookup 41 = some (.iload 7, 2) := by decide +kernel
theorem q104_43 : z_m104.2.2.2.2.2.lookup 43 = some (.iaload, 1) := by decide +kernel
theorem q104_44 : z_m104.2.2.2.2.2.lookup 44 = some (.istore 8, 2) := by decide +kernel
theorem q104_46 : z_m104.2.2.2.2.2.lookup 46 = some (.lload 5, 2) := by decide +kernel
theorem q104_48 : z_m104.2.2.2.2.2.lookup 48 = some (.aload_n 0, 1) := by decide +kernel
theorem q104_49 : z_m104.2.2.2.2.2.lookup 49 = some (.getfield 10, 3) := by decide +kernel
theorem q104_52 : z_m104.2.2.2.2.2.lookup 52 = some (.iload 7, 2) := by decide +kernel
theorem q104_54 : z_m104.2.2.2.2.2.lookup 54 = some (.iconst 0, 1) := by decide +kernel
theorem q104_55 : z_m104.2.2.2.2.2.lookup 55 = some (.iload 8, 2) := by decide +kernel
theorem q104_57 : z_m104.2.2.2.2.2.lookup 57 = some (.invokevirtual 171, 3) := by decide +kernel
theorem q104_60 : z_m104.2.2.2.2.2.lookup 60 = some (.aload_n 0, 1) := by decide +kernel
theorem q104_61 : z_m104.2.2.2.2.2.lookup 61 = some (.getfield 61, 3) := by decide +kernel
theorem q104_64 : z_m104.2.2.2.2.2.lookup 64 = some (.iload_n 1, 1) := by decide +kernel
theorem q104_65 : z_m104.2.2.2.2.2.lookup 65 = some (.iaload, 1) := by decide +kernel
theorem q104_66 : z_m104.2.2.2.2.2.lookup 66 = some (.invokestatic 209, 3) := by decide +kernel
theorem q104_69 : z_m104.2.2.2.2.2.lookup 69 = some (.i2l, 1) := by decide +kernel
theorem q104_70 : z_m104.2.2.2.2.2.lookup 70 = some (.ladd, 1) := by decide +kernel
theorem q104_71 : z_m104.2.2.2.2.2.lookup 71 = some (.lstore 5, 2) := by decide +kernel
theorem q104_73 : z_m104.2.2.2.2.2.lookup 73 = some (.lload 5, 2) := by decide +kernel
theorem q104_75 : z_m104.2.2.2.2.2.lookup 75 = some (.aload_n 0, 1) := by decide +kernel
theorem q104_76 : z_m104.2.2.2.2.2.lookup 76 = some (.getfield 10, 3) := by decide +kernel
theorem q104_79 : z_m104.2.2.2.2.2.lookup 79 = some (.iload 7, 2) := by decide +kernel
theorem q104_81 : z_m104.2.2.2.2.2.lookup 81 = some (.iconst 1, 1) := by decide +kernel
theorem q104_82 : z_m104.2.2.2.2.2.lookup 82 = some (.iload 8, 2) := by decide +kernel
theorem q104_84 : z_m104.2.2.2.2.2.lookup 84 = some (.invokevirtual 171, 3) := by decide +kernel
theorem q104_87 : z_m104.2.2.2.2.2.lookup 87 = some (.aload_n 0, 1) := by decide +kernel
theorem q104_88 : z_m104.2.2.2.2.2.lookup 88 = some (.getfield 64, 3) := by decide +kernel
theorem q104_91 : z_m104.2.2.2.2.2.lookup 91 = some (.iload_n 1, 1) := by decide +kernel
theorem q104_92 : z_m104.2.2.2.2.2.lookup 92 = some (.iaload, 1) := by decide +kernel
theorem q104_93 : z_m104.2.2.2.2.2.lookup 93 = some (.invokestatic 209, 3) := by decide +kernel
theorem q104_96 : z_m104.2.2.2.2.2.lookup 96 = some (.i2l, 1) := by decide +kernel
theorem q104_97 : z_m104.2.2.2.2.2.lookup 97 = some (.ladd, 1) := by decide +kernel
theorem q104_98 : z_m104.2.2.2.2.2.lookup 98 = some (.lstore 5, 2) := by decide +kernel
theorem q104_100 : z_m104.2.2.2.2.2.lookup 100 = some (.iinc 7 1, 3) := by decide +kernel
theorem q104_103 : z_m104.2.2.2.2.2.lookup 103 = some (.goto (-97), 3) := by decide +kernel
theorem q104_106 : z_m104.2.2.2.2.2.lookup 106 = some (.lload 5, 2) := by decide +kernel
theorem q104_108 : z_m104.2.2.2.2.2.lookup 108 = some (.lreturn, 1) := by decide +kernel
theorem q105_0 : z_m105.2.2.2.2.2.lookup 0 = some (.iload_n 1, 1) := by decide +kernel
theorem q105_1 : z_m105.2.2.2.2.2.lookup 1 = some (.invokestatic 262, 3) := by decide +kernel
theorem q105_4 : z_m105.2.2.2.2.2.lookup 4 = some (.ifCond .eq 21, 3) := by decide +kernel
theorem q105_7 : z_m105.2.2.2.2.2.lookup 7 = some (.iload_n 2, 1) := by decide +kernel
theorem q105_8 : z_m105.2.2.2.2.2.lookup 8 = some (.invokestatic 139, 3) := by decide +kernel
theorem q105_11 : z_m105.2.2.2.2.2.lookup 11 = some (.ifCond .eq 14, 3) := by decide +kernel
theorem q105_14 : z_m105.2.2.2.2.2.lookup 14 = some (.iload_n 3, 1) := by decide +kernel
theorem q105_15 : z_m105.2.2.2.2.2.lookup 15 = some (.iconst 0, 1) := by decide +kernel
theorem q105_16 : z_m105.2.2.2.2.2.lookup 16 = some (.sipush 999, 3) := by decide +kernel
theorem q105_19 : z_m105.2.2.2.2.2.lookup 19 = some (.invokestatic 128, 3) := by decide +kernel
theorem q105_22 : z_m105.2.2.2.2.2.lookup 22 = some (.ifCond .ne 6, 3) := by decide +kernel
theorem q105_25 : z_m105.2.2.2.2.2.lookup 25 = some (.bipush (-2), 2) := by decide +kernel
theorem q105_27 : z_m105.2.2.2.2.2.lookup 27 = some (.ireturn, 1) := by decide +kernel
theorem q105_28 : z_m105.2.2.2.2.2.lookup 28 = some (.aload_n 0, 1) := by decide +kernel
theorem q105_29 : z_m105.2.2.2.2.2.lookup 29 = some (.getfield 70, 3) := by decide +kernel
theorem q105_32 : z_m105.2.2.2.2.2.lookup 32 = some (.iload_n 1, 1) := by decide +kernel
theorem q105_33 : z_m105.2.2.2.2.2.lookup 33 = some (.iload_n 2, 1) := by decide +kernel
theorem q105_34 : z_m105.2.2.2.2.2.lookup 34 = some (.iload_n 3, 1) := by decide +kernel
theorem q105_35 : z_m105.2.2.2.2.2.lookup 35 = some (.invokevirtual 316, 3) := by decide +kernel
theorem q105_38 : z_m105.2.2.2.2.2.lookup 38 = some (.ireturn, 1) := by decide +kernel
theorem q106_0 : z_m106.2.2.2.2.2.lookup 0 = some (.iload_n 1, 1) := by decide +kernel
theorem q106_1 : z_m106.2.2.2.2.2.lookup 1 = some (.iconst 0, 1) := by decide +kernel
theorem q106_2 : z_m106.2.2.2.2.2.lookup 2 = some (.sipush 1023, 3) := by decide +kernel
theorem q106_5 : z_m106.2.2.2.2.2.lookup 5 = some (.invokestatic 128, 3) := by decide +kernel
theorem q106_8 : z_m106.2.2.2.2.2.lookup 8 = some (.ifCond .eq 11, 3) := by decide +kernel
theorem q106_11 : z_m106.2.2.2.2.2.lookup 11 = some (.iload_n 1, 1) := by decide +kernel
theorem q106_12 : z_m106.2.2.2.2.2.lookup 12 = some (.invokestatic 319, 3) := by decide +kernel
theorem q106_15 : z_m106.2.2.2.2.2.lookup 15 = some (.iconst 5, 1) := by decide +kernel
theorem q106_16 : z_m106.2.2.2.2.2.lookup 16 = some (.if_icmp .le 6, 3) := by decide +kernel
theorem q106_19 : z_m106.2.2.2.2.2.lookup 19 = some (.bipush (-2), 2) := by decide +kernel
theorem q106_21 : z_m106.2.2.2.2.2.lookup 21 = some (.ireturn, 1) := by decide +kernel
theorem q106_22 : z_m106.2.2.2.2.2.lookup 22 = some (.iload_n 2, 1) := by decide +kernel
theorem q106_23 : z_m106.2.2.2.2.2.lookup 23 = some (.iconst (-1), 1) := by decide +kernel
theorem q106_24 : z_m106.2.2.2.2.2.lookup 24 = some (.iload_n 1, 1) := by decide +kernel
theorem q106_25 : z_m106.2.2.2.2.2.lookup 25 = some (.invokestatic 319, 3) := by decide +kernel
theorem q106_28 : z_m106.2.2.2.2.2.lookup 28 = some (.iconst 1, 1) := by decide +kernel
theorem q106_29 : z_m106.2.2.2.2.2.lookup 29 = some (.isub, 1) := by decide +kernel
theorem q106_30 : z_m106.2.2.2.2.2.lookup 30 = some (.invokestatic 128, 3) := by decide +kernel
theorem q106_33 : z_m106.2.2.2.2.2.lookup 33 = some (.ifCond .ne 5, 3) := by decide +kernel
theorem q106_36 : z_m106.2.2.2.2.2.lookup 36 = some (.iconst (-1), 1) := by decide +kernel
theorem q106_37 : z_m106.2.2.2.2.2.lookup 37 = some (.ireturn, 1) := by decide +kernel
theorem q106_38 : z_m106.2.2.2.2.2.lookup 38 = some (.aload_n 0, 1) := by decide +kernel
theorem q106_39 : z_m106.2.2.2.2.2.lookup 39 = some (.getfield 70, 3) := by decide +kernel
theorem q106_42 : z_m106.2.2.2.2.2.lookup 42 = some (.iload_n 1, 1) := by decide +kernel
theorem q106_43 : z_m106.2.2.2.2.2.lookup 43 = some (.invokevirtual 324, 3) := by decide +kernel
theorem q106_46 : z_m106.2.2.2.2.2.lookup 46 = some (.iload_n 2, 1) := by decide +kernel
theorem q106_47 : z_m106.2.2.2.2.2.lookup 47 = some (.iconst (-1), 1) := by decide +kernel
theorem q106_48 : z_m106.2.2.2.2.2.lookup 48 = some (.if_icmp .ne 13, 3) := by decide +kernel
theorem q106_51 : z_m106.2.2.2.2.2.lookup 51 = some (.aload_n 0, 1) := by decide +kernel
theorem q106_52 : z_m106.2.2.2.2.2.lookup 52 = some (.getfield 70, 3) := by decide +kernel
theorem q106_55 : z_m106.2.2.2.2.2.lookup 55 = some (.getfield 327, 3) := by decide +kernel
theorem q106_58 : z_m106.2.2.2.2.2.lookup 58 = some (.goto 12, 3) := by decide +kernel
theorem q106_61 : z_m106.2.2.2.2.2.lookup 61 = some (.aload_n 0, 1) := by decide +kernel
theorem q106_62 : z_m106.2.2.2.2.2.lookup 62 = some (.getfield 70, 3) := by decide +kernel
theorem q106_65 : z_m106.2.2.2.2.2.lookup 65 = some (.getfield 330, 3) := by decide +kernel
theorem q106_68 : z_m106.2.2.2.2.2.lookup 68 = some (.iload_n 2, 1) := by decide +kernel
theorem q106_69 : z_m106.2.2.2.2.2.lookup 69 = some (.iaload, 1) := by decide +kernel
theorem q106_70 : z_m106.2.2.2.2.2.lookup 70 = some (.ireturn, 1) := by decide +kernel
theorem q107_0 : z_m107.2.2.2.2.2.lookup 0 = some (.iload_n 1, 1) := by decide +kernel
theorem q107_1 : z_m107.2.2.2.2.2.lookup 1 = some (.iconst 1, 1) := by decide +kernel
theorem q107_2 : z_m107.2.2.2.2.2.lookup 2 = some (.sipush 9999, 3) := by decide +kernel
theorem q107_5 : z_m107.2.2.2.2.2.lookup 5 = some (.invokestatic 128, 3) := by decide +kernel
theorem q107_8 : z_m107.2.2.2.2.2.lookup 8 = some (.ifCond .eq 14, 3) := by decide +kernel
theorem q107_11 : z_m107.2.2.2.2.2.lookup 11 = some (.iload_n 2, 1) := by decide +kernel
theorem q107_12 : z_m107.2.2.2.2.2.lookup 12 = some (.iconst 0, 1) := by decide +kernel
theorem q107_13 : z_m107.2.2.2.2.2.lookup 13 = some (.sipush 9999, 3) := by decide +kernel
theorem q107_16 : z_m107.2.2.2.2.2.lookup 16 = some (.invokestatic 128, 3) := by decide +kernel
theorem q107_19 : z_m107.2.2.2.2.2.lookup 19 = some (.ifCond .ne 6, 3) := by decide +kernel
theorem q107_22 : z_m107.2.2.2.2.2.lookup 22 = some (.bipush (-2), 2) := by decide +kernel
theorem q107_24 : z_m107.2.2.2.2.2.lookup 24 = some (.ireturn, 1) := by decide +kernel
theorem q107_25 : z_m107.2.2.2.2.2.lookup 25 = some (.aload_n 0, 1) := by decide +kernel
theorem q107_26 : z_m107.2.2.2.2.2.lookup 26 = some (.getfield 77, 3) := by decide +kernel
theorem q107_29 : z_m107.2.2.2.2.2.lookup 29 = some (.getfield 333, 3) := by decide +kernel
theorem q107_32 : z_m107.2.2.2.2.2.lookup 32 = some (.bipush 8, 2) := by decide +kernel
theorem q107_34 : z_m107.2.2.2.2.2.lookup 34 = some (.if_icmp .lt 8, 3) := by decide +kernel
theorem q107_37 : z_m107.2.2.2.2.2.lookup 37 = some (.bipush (-4), 2) := by decide +kernel
theorem q107_39 : z_m107.2.2.2.2.2.lookup 39 = some (.goto 12, 3) := by decide +kernel
theorem q107_42 : z_m107.2.2.2.2.2.lookup 42 = some (.aload_n 0, 1) := by decide +kernel
theorem q107_43 : z_m107.2.2.2.2.2.lookup 43 = some (.getfield 77, 3) := by decide +kernel
theorem q107_46 : z_m107.2.2.2.2.2.lookup 46 = some (.iload_n 1, 1) := by decide +kernel
theorem q107_47 : z_m107.2.2.2.2.2.lookup 47 = some (.iload_n 2, 1) := by decide +kernel
theorem q107_48 : z_m107.2.2.2.2.2.lookup 48 = some (.invokevirtual 334, 3) := by decide +kernel
theorem q107_51 : z_m107.2.2.2.2.2.lookup 51 = some (.ireturn, 1) := by decide +kernel
theorem q108_0 : z_m108.2.2.2.2.2.lookup 0 = some (.iload_n 1, 1) := by decide +kernel
theorem q108_1 : z_m108.2.2.2.2.2.lookup 1 = some (.iconst 0, 1) := by decide +kernel
theorem q108_2 : z_m108.2.2.2.2.2.lookup 2 = some (.ldc 188, 2) := by decide +kernel
theorem q108_4 : z_m108.2.2.2.2.2.lookup 4 = some (.invokestatic 128, 3) := by decide +kernel
theorem q108_7 : z_m108.2.2.2.2.2.lookup 7 = some (.ifCond .eq 12, 3) := by decide +kernel
theorem q108_10 : z_m108.2.2.2.2.2.lookup 10 = some (.iload_n 2, 1) := by decide +kernel
theorem q108_11 : z_m108.2.2.2.2.2.lookup 11 = some (.iconst 0, 1) := by decide +kernel
theorem q108_12 : z_m108.2.2.2.2.2.lookup 12 = some (.iconst 1, 1) := by decide +kernel
theorem q108_13 : z_m108.2.2.2.2.2.lookup 13 = some (.invokestatic 128, 3) := by decide +kernel
theorem q108_16 : z_m108.2.2.2.2.2.lookup 16 = some (.ifCond .ne 6, 3) := by decide +kernel
theorem q108_19 : z_m108.2.2.2.2.2.lookup 19 = some (.bipush (-2), 2) := by decide +kernel
theorem q108_21 : z_m108.2.2.2.2.2.lookup 21 = some (.ireturn, 1) := by decide +kernel
theorem q108_22 : z_m108.2.2.2.2.2.lookup 22 = some (.aload_n 0, 1) := by decide +kernel
theorem q108_23 : z_m108.2.2.2.2.2.lookup 23 = some (.getfield 77, 3) := by decide +kernel
theorem q108_26 : z_m108.2.2.2.2.2.lookup 26 = some (.iload_n 1, 1) := by decide +kernel
theorem q108_27 : z_m108.2.2.2.2.2.lookup 27 = some (.invokevirtual 336, 3) := by decide +kernel
theorem q108_30 : z_m108.2.2.2.2.2.lookup 30 = some (.istore_n 3, 1) := by decide +kernel
theorem q108_31 : z_m108.2.2.2.2.2.lookup 31 = some (.iload_n 2, 1) := by decide +kernel
theorem q108_32 : z_m108.2.2.2.2.2.lookup 32 = some (.ifCond .ne 7, 3) := by decide +kernel
theorem q108_35 : z_m108.2.2.2.2.2.lookup 35 = some (.iload_n 3, 1) := by decide +kernel
theorem q108_36 : z_m108.2.2.2.2.2.lookup 36 = some (.goto 18, 3) := by decide +kernel
theorem q108_39 : z_m108.2.2.2.2.2.lookup 39 = some (.aload_n 0, 1) := by decide +kernel
theorem q108_40 : z_m108.2.2.2.2.2.lookup 40 = some (.getfield 77, 3) := by decide +kernel
theorem q108_43 : z_m108.2.2.2.2.2.lookup 43 = some (.aload_n 0, 1) := by decide +kernel
theorem q108_44 : z_m108.2.2.2.2.2.lookup 44 = some (.getfield 77, 3) := by decide +kernel
theorem q108_47 : z_m108.2.2.2.2.2.lookup 47 = some (.getfield 339, 3) := by decide +kernel
theorem q108_50 : z_m108.2.2.2.2.2.lookup 50 = some (.iload_n 3, 1) := by decide +kernel
theorem q108_51 : z_m108.2.2.2.2.2.lookup 51 = some (.invokevirtual 342, 3) := by decide +kernel
theorem q108_54 : z_m108.2.2.2.2.2.lookup 54 = some (.ireturn, 1) := by decide +kernel
theorem q109_0 : z_m109.2.2.2.2.2.lookup 0 = some (.iload_n 1, 1) := by decide +kernel
theorem q109_1 : z_m109.2.2.2.2.2.lookup 1 = some (.iconst 0, 1) := by decide +kernel
theorem q109_2 : z_m109.2.2.2.2.2.lookup 2 = some (.sipush 9999, 3) := by decide +kernel
theorem q109_5 : z_m109.2.2.2.2.2.lookup 5 = some (.invokestatic 128, 3) := by decide +kernel
theorem q109_8 : z_m109.2.2.2.2.2.lookup 8 = some (.ifCond .eq 14, 3) := by decide +kernel
theorem q109_11 : z_m109.2.2.2.2.2.lookup 11 = some (.iload_n 2, 1) := by decide +kernel
theorem q109_12 : z_m109.2.2.2.2.2.lookup 12 = some (.iconst 0, 1) := by decide +kernel
theorem q109_13 : z_m109.2.2.2.2.2.lookup 13 = some (.sipush 999, 3) := by decide +kernel
theorem q109_16 : z_m109.2.2.2.2.2.lookup 16 = some (.invokestatic 128, 3) := by decide +kernel
theorem q109_19 : z_m109.2.2.2.2.2.lookup 19 = some (.ifCond .ne 6, 3) := by decide +kernel
theorem q109_22 : z_m109.2.2.2.2.2.lookup 22 = some (.bipush (-2), 2) := by decide +kernel
theorem q109_24 : z_m109.2.2.2.2.2.lookup 24 = some (.ireturn, 1) := by decide +kernel
theorem q109_25 : z_m109.2.2.2.2.2.lookup 25 = some (.aload_n 0, 1) := by decide +kernel
theorem q109_26 : z_m109.2.2.2.2.2.lookup 26 = some (.getfield 84, 3) := by decide +kernel
theorem q109_29 : z_m109.2.2.2.2.2.lookup 29 = some (.getfield 346, 3) := by decide +kernel
theorem q109_32 : z_m109.2.2.2.2.2.lookup 32 = some (.bipush 6, 2) := by decide +kernel
theorem q109_34 : z_m109.2.2.2.2.2.lookup 34 = some (.if_icmp .lt 8, 3) := by decide +kernel
theorem q109_37 : z_m109.2.2.2.2.2.lookup 37 = some (.bipush (-4), 2) := by decide +kernel
theorem q109_39 : z_m109.2.2.2.2.2.lookup 39 = some (.goto 12, 3) := by decide +kernel
theorem q109_42 : z_m109.2.2.2.2.2.lookup 42 = some (.aload_n 0, 1) := by decide +kernel
theorem q109_43 : z_m109.2.2.2.2.2.lookup 43 = some (.getfield 84, 3) := by decide +kernel
theorem q109_46 : z_m109.2.2.2.2.2.lookup 46 = some (.iload_n 1, 1) := by decide +kernel
theorem q109_47 : z_m109.2.2.2.2.2.lookup 47 = some (.iload_n 2, 1) := by decide +kernel
theorem q109_48 : z_m109.2.2.2.2.2.lookup 48 = some (.invokevirtual 347, 3) := by decide +kernel
theorem q109_51 : z_m109.2.2.2.2.2.lookup 51 = some (.ireturn, 1) := by decide +kernel
theorem q110_0 : z_m110.2.2.2.2.2.lookup 0 = some (.iload_n 1, 1) := by decide +kernel
theorem q110_1 : z_m110.2.2.2.2.2.lookup 1 = some (.iconst 0, 1) := by decide +kernel
theorem q110_2 : z_m110.2.2.2.2.2.lookup 2 = some (.aload_n 0, 1) := by decide +kernel
theorem q110_3 : z_m110.2.2.2.2.2.lookup 3 = some (.getfield 84, 3) := by decide +kernel
theorem q110_6 : z_m110.2.2.2.2.2.lookup 6 = some (.getfield 346, 3) := by decide +kernel
theorem q110_9 : z_m110.2.2.2.2.2.lookup 9 = some (.iconst 1, 1) := by decide +kernel
theorem q110_10 : z_m110.2.2.2.2.2.lookup 10 = some (.isub, 1) := by decide +kernel
theorem q110_11 : z_m110.2.2.2.2.2.lookup 11 = some (.invokestatic 128, 3) := by decide +kernel
theorem q110_14 : z_m110.2.2.2.2.2.lookup 14 = some (.ifCond .eq 12, 3) := by decide +kernel
theorem q110_17 : z_m110.2.2.2.2.2.lookup 17 = some (.iload_n 2, 1) := by decide +kernel
theorem q110_18 : z_m110.2.2.2.2.2.lookup 18 = some (.iconst 0, 1) := by decide +kernel
theorem q110_19 : z_m110.2.2.2.2.2.lookup 19 = some (.iconst 1, 1) := by decide +kernel
theorem q110_20 : z_m110.2.2.2.2.2.lookup 20 = some (.invokestatic 128, 3) := by decide +kernel
theorem q110_23 : z_m110.2.2.2.2.2.lookup 23 = some (.ifCond .ne 6, 3) := by decide +kernel
theorem q110_26 : z_m110.2.2.2.2.2.lookup 26 = some (.bipush (-2), 2) := by decide +kernel
theorem q110_28 : z_m110.2.2.2.2.2.lookup 28 = some (.ireturn, 1) := by decide +kernel
theorem q110_29 : z_m110.2.2.2.2.2.lookup 29 = some (.aload_n 0, 1) := by decide +kernel
theorem q110_30 : z_m110.2.2.2.2.2.lookup 30 = some (.getfield 84, 3) := by decide +kernel
theorem q110_33 : z_m110.2.2.2.2.2.lookup 33 = some (.getfield 348, 3) := by decide +kernel
theorem q110_36 : z_m110.2.2.2.2.2.lookup 36 = some (.iload_n 1, 1) := by decide +kernel
theorem q110_37 : z_m110.2.2.2.2.2.lookup 37 = some (.baload, 1) := by decide +kernel
theorem q110_38 : z_m110.2.2.2.2.2.lookup 38 = some (.ifCond .eq 7, 3) := by decide +kernel
theorem q110_41 : z_m110.2.2.2.2.2.lookup 41 = some (.iconst 1, 1) := by decide +kernel
theorem q110_42 : z_m110.2.2.2.2.2.lookup 42 = some (.goto 4, 3) := by decide +kernel
theorem q110_45 : z_m110.2.2.2.2.2.lookup 45 = some (.iconst 0, 1) := by decide +kernel
theorem q110_46 : z_m110.2.2.2.2.2.lookup 46 = some (.istore_n 3, 1) := by decide +kernel
theorem q110_47 : z_m110.2.2.2.2.2.lookup 47 = some (.aload_n 0, 1) := by decide +kernel
theorem q110_48 : z_m110.2.2.2.2.2.lookup 48 = some (.getfield 84, 3) := by decide +kernel
theorem q110_51 : z_m110.2.2.2.2.2.lookup 51 = some (.getfield 348, 3) := by decide +kernel
theorem q110_54 : z_m110.2.2.2.2.2.lookup 54 = some (.iload_n 1, 1) := by decide +kernel
theorem q110_55 : z_m110.2.2.2.2.2.lookup 55 = some (.iload_n 2, 1) := by decide +kernel
theorem q110_56 : z_m110.2.2.2.2.2.lookup 56 = some (.iconst 1, 1) := by decide +kernel
theorem q110_57 : z_m110.2.2.2.2.2.lookup 57 = some (.if_icmp .ne 7, 3) := by decide +kernel
theorem q110_60 : z_m110.2.2.2.2.2.lookup 60 = some (.iconst 1, 1) := by decide +kernel
theorem q110_61 : z_m110.2.2.2.2.2.lookup 61 = some (.goto 4, 3) := by decide +kernel
theorem q110_64 : z_m110.2.2.2.2.2.lookup 64 = some (.iconst 0, 1) := by decide +kernel
theorem q110_65 : z_m110.2.2.2.2.2.lookup 65 = some (.bastore, 1) := by decide +kernel
theorem q110_66 : z_m110.2.2.2.2.2.lookup 66 = some (.iload_n 3, 1) := by decide +kernel
theorem q110_67 : z_m110.2.2.2.2.2.lookup 67 = some (.ireturn, 1) := by decide +kernel
theorem q111_0 : z_m111.2.2.2.2.2.lookup 0 = some (.iload_n 1, 1) := by decide +kernel
theorem q111_1 : z_m111.2.2.2.2.2.lookup 1 = some (.iconst (-1), 1) := by decide +kernel
theorem q111_2 : z_m111.2.2.2.2.2.lookup 2 = some (.aload_n 0, 1) := by decide +kernel
theorem q111_3 : z_m111.2.2.2.2.2.lookup 3 = some (.getfield 84, 3) := by decide +kernel
theorem q111_6 : z_m111.2.2.2.2.2.lookup 6 = some (.getfield 346, 3) := by decide +kernel
theorem q111_9 : z_m111.2.2.2.2.2.lookup 9 = some (.iconst 1, 1) := by decide +kernel
theorem q111_10 : z_m111.2.2.2.2.2.lookup 10 = some (.isub, 1) := by decide +kernel
theorem q111_11 : z_m111.2.2.2.2.2.lookup 11 = some (.invokestatic 128, 3) := by decide +kernel
theorem q111_14 : z_m111.2.2.2.2.2.lookup 14 = some (.ifCond .ne 7, 3) := by decide +kernel
theorem q111_17 : z_m111.2.2.2.2.2.lookup 17 = some (.ldc2_w 235, 3) := by decide +kernel
theorem q111_20 : z_m111.2.2.2.2.2.lookup 20 = some (.lreturn, 1) := by decide +kernel
theorem q111_21 : z_m111.2.2.2.2.2.lookup 21 = some (.aload_n 0, 1) := by decide +kernel
theorem q111_22 : z_m111.2.2.2.2.2.lookup 22 = some (.getfield 84, 3) := by decide +kernel
theorem q111_25 : z_m111.2.2.2.2.2.lookup 25 = some (.aload_n 0, 1) := by decide +kernel
theorem q111_26 : z_m111.2.2.2.2.2.lookup 26 = some (.getfield 16, 3) := by decide +kernel
theorem q111_29 : z_m111.2.2.2.2.2.lookup 29 = some (.iconst 0, 1) := by decide +kernel
theorem q111_30 : z_m111.2.2.2.2.2.lookup 30 = some (.iaload, 1) := by decide +kernel
theorem q111_31 : z_m111.2.2.2.2.2.lookup 31 = some (.invokevirtual 351, 3) := by decide +kernel
theorem q111_34 : z_m111.2.2.2.2.2.lookup 34 = some (.iload_n 1, 1) := by decide +kernel
theorem q111_35 : z_m111.2.2.2.2.2.lookup 35 = some (.iconst (-1), 1) := by decide +kernel
theorem q111_36 : z_m111.2.2.2.2.2.lookup 36 = some (.if_icmp .ne 13, 3) := by decide +kernel
theorem q111_39 : z_m111.2.2.2.2.2.lookup 39 = some (.aload_n 0, 1) := by decide +kernel
theorem q111_40 : z_m111.2.2.2.2.2.lookup 40 = some (.getfield 84, 3) := by decide +kernel
theorem q111_43 : z_m111.2.2.2.2.2.lookup 43 = some (.invokevirtual 354, 3) := by decide +kernel
theorem q111_46 : z_m111.2.2.2.2.2.lookup 46 = some (.goto 13, 3) := by decide +kernel
theorem q111_49 : z_m111.2.2.2.2.2.lookup 49 = some (.aload_n 0, 1) := by decide +kernel
theorem q111_50 : z_m111.2.2.2.2.2.lookup 50 = some (.getfield 84, 3) := by decide +kernel
theorem q111_53 : z_m111.2.2.2.2.2.lookup 53 = some (.getfield 358, 3) := by decide +kernel
theorem q111_56 : z_m111.2.2.2.2.2.lookup 56 = some (.iload_n 1, 1) := by decide +kernel
theorem q111_57 : z_m111.2.2.2.2.2.lookup 57 = some (.iaload, 1) := by decide +kernel
theorem q111_58 : z_m111.2.2.2.2.2.lookup 58 = some (.i2l, 1) := by decide +kernel
theorem q111_59 : z_m111.2.2.2.2.2.lookup 59 = some (.lreturn, 1) := by decide +kernel
theorem q112_0 : z_m112.2.2.2.2.2.lookup 0 = some (.iload_n 1, 1) := by decide +kernel
theorem q112_1 : z_m112.2.2.2.2.2.lookup 1 = some (.tableswitch 162 0 12 #[67, 72, 80, 88, 96, 104, 112, 120, 128, 136, 141, 149, 157], 67) := by decide +kernel
theorem q112_68 : z_m112.2.2.2.2.2.lookup 68 = some (.aload_n 0, 1) := by decide +kernel
theorem q112_69 : z_m112.2.2.2.2.2.lookup 69 = some (.getfield 132, 3) := by decide +kernel
theorem q112_72 : z_m112.2.2.2.2.2.lookup 72 = some (.ireturn, 1) := by decide +kernel
theorem q112_73 : z_m112.2.2.2.2.2.lookup 73 = some (.aload_n 0, 1) := by decide +kernel
theorem q112_74 : z_m112.2.2.2.2.2.lookup 74 = some (.getfield 10, 3) := by decide +kernel
theorem q112_77 : z_m112.2.2.2.2.2.lookup 77 = some (.getfield 142, 3) := by decide +kernel
theorem q112_80 : z_m112.2.2.2.2.2.lookup 80 = some (.ireturn, 1) := by decide +kernel
theorem q112_81 : z_m112.2.2.2.2.2.lookup 81 = some (.aload_n 0, 1) := by decide +kernel
theorem q112_82 : z_m112.2.2.2.2.2.lookup 82 = some (.getfield 23, 3) := by decide +kernel
theorem q112_85 : z_m112.2.2.2.2.2.lookup 85 = some (.getfield 218, 3) := by decide +kernel
theorem q112_88 : z_m112.2.2.2.2.2.lookup 88 = some (.ireturn, 1) := by decide +kernel
theorem q112_89 : z_m112.2.2.2.2.2.lookup 89 = some (.aload_n 0, 1) := by decide +kernel
theorem q112_90 : z_m112.2.2.2.2.2.lookup 90 = some (.getfield 37, 3) := by decide +kernel
theorem q112_93 : z_m112.2.2.2.2.2.lookup 93 = some (.getfield 121, 3) := by decide +kernel
theorem q112_96 : z_m112.2.2.2.2.2.lookup 96 = some (.ireturn, 1) := by decide +kernel
theorem q112_97 : z_m112.2.2.2.2.2.lookup 97 = some (.aload_n 0, 1) := by decide +kernel
theorem q112_98 : z_m112.2.2.2.2.2.lookup 98 = some (.getfield 30, 3) := by decide +kernel
theorem q112_101 : z_m112.2.2.2.2.2.lookup 101 = some (.getfield 222, 3) := by decide +kernel
theorem q112_104 : z_m112.2.2.2.2.2.lookup 104 = some (.ireturn, 1) := by decide +kernel
theorem q112_105 : z_m112.2.2.2.2.2.lookup 105 = some (.aload_n 0, 1) := by decide +kernel
theorem q112_106 : z_m112.2.2.2.2.2.lookup 106 = some (.getfield 37, 3) := by decide +kernel
theorem q112_109 : z_m112.2.2.2.2.2.lookup 109 = some (.getfield 228, 3) := by decide +kernel
theorem q112_112 : z_m112.2.2.2.2.2.lookup 112 = some (.ireturn, 1) := by decide +kernel
theorem q112_113 : z_m112.2.2.2.2.2.lookup 113 = some (.aload_n 0, 1) := by decide +kernel
theorem q112_114 : z_m112.2.2.2.2.2.lookup 114 = some (.getfield 50, 3) := by decide +kernel
theorem q112_117 : z_m112.2.2.2.2.2.lookup 117 = some (.getfield 265, 3) := by decide +kernel
theorem q112_120 : z_m112.2.2.2.2.2.lookup 120 = some (.ireturn, 1) := by decide +kernel
theorem q112_121 : z_m112.2.2.2.2.2.lookup 121 = some (.aload_n 0, 1) := by decide +kernel
theorem q112_122 : z_m112.2.2.2.2.2.lookup 122 = some (.getfield 57, 3) := by decide +kernel
theorem q112_125 : z_m112.2.2.2.2.2.lookup 125 = some (.getfield 286, 3) := by decide +kernel
theorem q112_128 : z_m112.2.2.2.2.2.lookup 128 = some (.ireturn, 1) := by decide +kernel
theorem q112_129 : z_m112.2.2.2.2.2.lookup 129 = some (.aload_n 0, 1) := by decide +kernel
theorem q112_130 : z_m112.2.2.2.2.2.lookup 130 = some (.getfield 57, 3) := by decide +kernel
theorem q112_133 : z_m112.2.2.2.2.2.lookup 133 = some (.getfield 295, 3) := by decide +kernel
theorem q112_136 : z_m112.2.2.2.2.2.lookup 136 = some (.ireturn, 1) := by decide +kernel
theorem q112_137 : z_m112.2.2.2.2.2.lookup 137 = some (.aload_n 0, 1) := by decide +kernel
theorem q112_138 : z_m112.2.2.2.2.2.lookup 138 = some (.getfield 306, 3) := by decide +kernel
theorem q112_141 : z_m112.2.2.2.2.2.lookup 141 = some (.ireturn, 1) := by decide +kernel
theorem q112_142 : z_m112.2.2.2.2.2.lookup 142 = some (.aload_n 0, 1) := by decide +kernel
theorem q112_143 : z_m112.2.2.2.2.2.lookup 143 = some (.getfield 77, 3) := by decide +kernel
theorem q112_146 : z_m112.2.2.2.2.2.lookup 146 = some (.getfield 333, 3) := by decide +kernel
theorem q112_149 : z_m112.2.2.2.2.2.lookup 149 = some (.ireturn, 1) := by decide +kernel
theorem q112_150 : z_m112.2.2.2.2.2.lookup 150 = some (.aload_n 0, 1) := by decide +kernel
theorem q112_151 : z_m112.2.2.2.2.2.lookup 151 = some (.getfield 84, 3) := by decide +kernel
theorem q112_154 : z_m112.2.2.2.2.2.lookup 154 = some (.getfield 346, 3) := by decide +kernel
theorem q112_157 : z_m112.2.2.2.2.2.lookup 157 = some (.ireturn, 1) := by decide +kernel
theorem q112_158 : z_m112.2.2.2.2.2.lookup 158 = some (.aload_n 0, 1) := by decide +kernel
theorem q112_159 : z_m112.2.2.2.2.2.lookup 159 = some (.getfield 212, 3) := by decide +kernel
theorem q112_162 : z_m112.2.2.2.2.2.lookup 162 = some (.ireturn, 1) := by decide +kernel
theorem q112_163 : z_m112.2.2.2.2.2.lookup 163 = some (.bipush (-2), 2) := by decide +kernel
theorem q112_165 : z_m112.2.2.2.2.2.lookup 165 = some (.ireturn, 1) := by decide +kernel
theorem q113_0 : z_m113.2.2.2.2.2.lookup 0 = some (.iload_n 1, 1) := by decide +kernel
theorem q113_1 : z_m113.2.2.2.2.2.lookup 1 = some (.invokestatic 361, 3) := by decide +kernel
theorem q113_4 : z_m113.2.2.2.2.2.lookup 4 = some (.ifCond .eq 12, 3) := by decide +kernel
theorem q113_7 : z_m113.2.2.2.2.2.lookup 7 = some (.iload_n 2, 1) := by decide +kernel
theorem q113_8 : z_m113.2.2.2.2.2.lookup 8 = some (.iconst (-1), 1) := by decide +kernel
theorem q113_9 : z_m113.2.2.2.2.2.lookup 9 = some (.iconst 2, 1) := by decide +kernel
theorem q113_10 : z_m113.2.2.2.2.2.lookup 10 = some (.invokestatic 128, 3) := by decide +kernel
theorem q113_13 : z_m113.2.2.2.2.2.lookup 13 = some (.ifCond .ne 6, 3) := by decide +kernel
theorem q113_16 : z_m113.2.2.2.2.2.lookup 16 = some (.bipush (-2), 2) := by decide +kernel
theorem q113_18 : z_m113.2.2.2.2.2.lookup 18 = some (.ireturn, 1) := by decide +kernel
theorem q113_19 : z_m113.2.2.2.2.2.lookup 19 = some (.iload_n 2, 1) := by decide +kernel
theorem q113_20 : z_m113.2.2.2.2.2.lookup 20 = some (.iconst (-1), 1) := by decide +kernel
theorem q113_21 : z_m113.2.2.2.2.2.lookup 21 = some (.if_icmp .ne 16, 3) := by decide +kernel
theorem q113_24 : z_m113.2.2.2.2.2.lookup 24 = some (.aload_n 0, 1) := by decide +kernel
theorem q113_25 : z_m113.2.2.2.2.2.lookup 25 = some (.getfield 90, 3) := by decide +kernel
theorem q113_28 : z_m113.2.2.2.2.2.lookup 28 = some (.iload_n 1, 1) := by decide +kernel
theorem q113_29 : z_m113.2.2.2.2.2.lookup 29 = some (.aaload, 1) := by decide +kernel
theorem q113_30 : z_m113.2.2.2.2.2.lookup 30 = some (.iconst (-1), 1) := by decide +kernel
theorem q113_31 : z_m113.2.2.2.2.2.lookup 31 = some (.iconst 0, 1) := by decide +kernel
theorem q113_32 : z_m113.2.2.2.2.2.lookup 32 = some (.invokevirtual 364, 3) := by decide +kernel
theorem q113_35 : z_m113.2.2.2.2.2.lookup 35 = some (.iconst 1, 1) := by decide +kernel
theorem q113_36 : z_m113.2.2.2.2.2.lookup 36 = some (.ireturn, 1) := by decide +kernel
theorem q113_37 : z_m113.2.2.2.2.2.lookup 37 = some (.iload_n 3, 1) := by decide +kernel
theorem q113_38 : z_m113.2.2.2.2.2.lookup 38 = some (.bipush 40, 2) := by decide +kernel
theorem q113_40 : z_m113.2.2.2.2.2.lookup 40 = some (.if_icmp .le 6, 3) := by decide +kernel
theorem q113_43 : z_m113.2.2.2.2.2.lookup 43 = some (.bipush (-2), 2) := by decide +kernel
theorem q113_45 : z_m113.2.2.2.2.2.lookup 45 = some (.ireturn, 1) := by decide +kernel
theorem q113_46 : z_m113.2.2.2.2.2.lookup 46 = some (.iload_n 3, 1) := by decide +kernel
theorem q113_47 : z_m113.2.2.2.2.2.lookup 47 = some (.ifCond .ge 6, 3) := by decide +kernel
theorem q113_50 : z_m113.2.2.2.2.2.lookup 50 = some (.bipush (-14), 2) := by decide +kernel
theorem q113_52 : z_m113.2.2.2.2.2.lookup 52 = some (.ireturn, 1) := by decide +kernel
theorem q113_53 : z_m113.2.2.2.2.2.lookup 53 = some (.aload_n 0, 1) := by decide +kernel
theorem q113_54 : z_m113.2.2.2.2.2.lookup 54 = some (.getfield 90, 3) := by decide +kernel
theorem q113_57 : z_m113.2.2.2.2.2.lookup 57 = some (.iload_n 1, 1) := by decide +kernel
theorem q113_58 : z_m113.2.2.2.2.2.lookup 58 = some (.aaload, 1) := by decide +kernel
theorem q113_59 : z_m113.2.2.2.2.2.lookup 59 = some (.iload_n 2, 1) := by decide +kernel
theorem q113_60 : z_m113.2.2.2.2.2.lookup 60 = some (.iload_n 3, 1) := by decide +kernel
theorem q113_61 : z_m113.2.2.2.2.2.lookup 61 = some (.invokevirtual 364, 3) := by decide +kernel
theorem q113_64 : z_m113.2.2.2.2.2.lookup 64 = some (.iconst 1, 1) := by decide +kernel
theorem q113_65 : z_m113.2.2.2.2.2.lookup 65 = some (.ireturn, 1) := by decide +kernel
theorem q114_0 : z_m114.2.2.2.2.2.lookup 0 = some (.iload_n 1, 1) := by decide +kernel
theorem q114_1 : z_m114.2.2.2.2.2.lookup 1 = some (.invokestatic 361, 3) := by decide +kernel
theorem q114_4 : z_m114.2.2.2.2.2.lookup 4 = some (.ifCond .ne 6, 3) := by decide +kernel
theorem q114_7 : z_m114.2.2.2.2.2.lookup 7 = some (.bipush (-2), 2) := by decide +kernel
theorem q114_9 : z_m114.2.2.2.2.2.lookup 9 = some (.ireturn, 1) := by decide +kernel
theorem q114_10 : z_m114.2.2.2.2.2.lookup 10 = some (.aload_n 0, 1) := by decide +kernel
theorem q114_11 : z_m114.2.2.2.2.2.lookup 11 = some (.getfield 90, 3) := by decide +kernel
theorem q114_14 : z_m114.2.2.2.2.2.lookup 14 = some (.iload_n 1, 1) := by decide +kernel
theorem q114_15 : z_m114.2.2.2.2.2.lookup 15 = some (.aaload, 1) := by decide +kernel
theorem q114_16 : z_m114.2.2.2.2.2.lookup 16 = some (.astore 4, 2) := by decide +kernel
theorem q114_18 : z_m114.2.2.2.2.2.lookup 18 = some (.aload 4, 2) := by decide +kernel
theorem q114_20 : z_m114.2.2.2.2.2.lookup 20 = some (.invokevirtual 367, 3) := by decide +kernel
theorem q114_23 : z_m114.2.2.2.2.2.lookup 23 = some (.ifCond .eq 6, 3) := by decide +kernel
theorem q114_26 : z_m114.2.2.2.2.2.lookup 26 = some (.bipush (-11), 2) := by decide +kernel
theorem q114_28 : z_m114.2.2.2.2.2.lookup 28 = some (.ireturn, 1) := by decide +kernel
theorem q114_29 : z_m114.2.2.2.2.2.lookup 29 = some (.iload_n 2, 1) := by decide +kernel
theorem q114_30 : z_m114.2.2.2.2.2.lookup 30 = some (.iconst 0, 1) := by decide +kernel
theorem q114_31 : z_m114.2.2.2.2.2.lookup 31 = some (.aload 4, 2) := by decide +kernel
theorem q114_33 : z_m114.2.2.2.2.2.lookup 33 = some (.getfield 371, 3) := by decide +kernel
theorem q114_36 : z_m114.2.2.2.2.2.lookup 36 = some (.iconst 1, 1) := by decide +kernel
theorem q114_37 : z_m114.2.2.2.2.2.lookup 37 = some (.isub, 1) := by decide +kernel
theorem q114_38 : z_m114.2.2.2.2.2.lookup 38 = some (.invokestatic 128, 3) := by decide +kernel
theorem q114_41 : z_m114.2.2.2.2.2.lookup 41 = some (.ifCond .ne 6, 3) := by decide +kernel
theorem q114_44 : z_m114.2.2.2.2.2.lookup 44 = some (.bipush (-12), 2) := by decide +kernel
theorem q114_46 : z_m114.2.2.2.2.2.lookup 46 = some (.ireturn, 1) := by decide +kernel
theorem q114_47 : z_m114.2.2.2.2.2.lookup 47 = some (.aload 4, 2) := by decide +kernel
theorem q114_49 : z_m114.2.2.2.2.2.lookup 49 = some (.iload_n 2, 1) := by decide +kernel
theorem q114_50 : z_m114.2.2.2.2.2.lookup 50 = some (.iload_n 3, 1) := by decide +kernel
theorem q114_51 : z_m114.2.2.2.2.2.lookup 51 = some (.invokevirtual 372, 3) := by decide +kernel
theorem q114_54 : z_m114.2.2.2.2.2.lookup 54 = some (.iconst 1, 1) := by decide +kernel
theorem q114_55 : z_m114.2.2.2.2.2.lookup 55 = some (.ireturn, 1) := by decide +kernel
theorem q115_0 : z_m115.2.2.2.2.2.lookup 0 = some (.iload_n 1, 1) := by decide +kernel
theorem q115_1 : z_m115.2.2.2.2.2.lookup 1 = some (.invokestatic 361, 3) := by decide +kernel
theorem q115_4 : z_m115.2.2.2.2.2.lookup 4 = some (.ifCond .eq 10, 3) := by decide +kernel
theorem q115_7 : z_m115.2.2.2.2.2.lookup 7 = some (.iload_n 3, 1) := by decide +kernel
theorem q115_8 : z_m115.2.2.2.2.2.lookup 8 = some (.invokestatic 361, 3) := by decide +kernel
theorem q115_11 : z_m115.2.2.2.2.2.lookup 11 = some (.ifCond .ne 6, 3) := by decide +kernel
theorem q115_14 : z_m115.2.2.2.2.2.lookup 14 = some (.bipush (-2), 2) := by decide +kernel
theorem q115_16 : z_m115.2.2.2.2.2.lookup 16 = some (.ireturn, 1) := by decide +kernel
theorem q115_17 : z_m115.2.2.2.2.2.lookup 17 = some (.aload_n 0, 1) := by decide +kernel
theorem q115_18 : z_m115.2.2.2.2.2.lookup 18 = some (.getfield 90, 3) := by decide +kernel
theorem q115_21 : z_m115.2.2.2.2.2.lookup 21 = some (.iload_n 1, 1) := by decide +kernel
theorem q115_22 : z_m115.2.2.2.2.2.lookup 22 = some (.aaload, 1) := by decide +kernel
theorem q115_23 : z_m115.2.2.2.2.2.lookup 23 = some (.astore 6, 2) := by decide +kernel
theorem q115_25 : z_m115.2.2.2.2.2.lookup 25 = some (.aload_n 0, 1) := by decide +kernel
theorem q115_26 : z_m115.2.2.2.2.2.lookup 26 = some (.getfield 90, 3) := by decide +kernel
theorem q115_29 : z_m115.2.2.2.2.2.lookup 29 = some (.iload_n 3, 1) := by decide +kernel
theorem q115_30 : z_m115.2.2.2.2.2.lookup 30 = some (.aaload, 1) := by decide +kernel
theorem q115_31 : z_m115.2.2.2.2.2.lookup 31 = some (.astore 7, 2) := by decide +kernel
theorem q115_33 : z_m115.2.2.2.2.2.lookup 33 = some (.aload 6, 2) := by decide +kernel
theorem q115_35 : z_m115.2.2.2.2.2.lookup 35 = some (.invokevirtual 367, 3) := by decide +kernel
theorem q115_38 : z_m115.2.2.2.2.2.lookup 38 = some (.ifCond .ne 11, 3) := by decide +kernel
theorem q115_41 : z_m115.2.2.2.2.2.lookup 41 = some (.aload 7, 2) := by decide +kernel
theorem q115_43 : z_m115.2.2.2.2.2.lookup 43 = some (.invokevirtual 367, 3) := by decide +kernel
theorem q115_46 : z_m115.2.2.2.2.2.lookup 46 = some (.ifCond .eq 6, 3) := by decide +kernel
theorem q115_49 : z_m115.2.2.2.2.2.lookup 49 = some (.bipush (-11), 2) := by decide +kernel
theorem q115_51 : z_m115.2.2.2.2.2.lookup 51 = some (.ireturn, 1) := by decide +kernel
theorem q115_52 : z_m115.2.2.2.2.2.lookup 52 = some (.aload 6, 2) := by decide +kernel
theorem q115_54 : z_m115.2.2.2.2.2.lookup 54 = some (.getfield 375, 3) := by decide +kernel
theorem q115_57 : z_m115.2.2.2.2.2.lookup 57 = some (.aload 7, 2) := by decide +kernel
theorem q115_59 : z_m115.2.2.2.2.2.lookup 59 = some (.getfield 375, 3) := by decide +kernel
theorem q115_62 : z_m115.2.2.2.2.2.lookup 62 = some (.if_icmp .eq 6, 3) := by decide +kernel
theorem q115_65 : z_m115.2.2.2.2.2.lookup 65 = some (.bipush (-13), 2) := by decide +kernel
theorem q115_67 : z_m115.2.2.2.2.2.lookup 67 = some (.ireturn, 1) := by decide +kernel
theorem q115_68 : z_m115.2.2.2.2.2.lookup 68 = some (.aload 6, 2) := by decide +kernel
theorem q115_70 : z_m115.2.2.2.2.2.lookup 70 = some (.iload_n 2, 1) := by decide +kernel
theorem q115_71 : z_m115.2.2.2.2.2.lookup 71 = some (.iload 5, 2) := by decide +kernel
theorem q115_73 : z_m115.2.2.2.2.2.lookup 73 = some (.invokevirtual 378, 3) := by decide +kernel
theorem q115_76 : z_m115.2.2.2.2.2.lookup 76 = some (.ifCond .eq 15, 3) := by decide +kernel
theorem q115_79 : z_m115.2.2.2.2.2.lookup 79 = some (.aload 7, 2) := by decide +kernel
theorem q115_81 : z_m115.2.2.2.2.2.lookup 81 = some (.iload 4, 2) := by decide +kernel
theorem q115_83 : z_m115.2.2.2.2.2.lookup 83 = some (.iload 5, 2) := by decide +kernel
theorem q115_85 : z_m115.2.2.2.2.2.lookup 85 = some (.invokevirtual 378, 3) := by decide +kernel
theorem q115_88 : z_m115.2.2.2.2.2.lookup 88 = some (.ifCond .ne 6, 3) := by decide +kernel
theorem q115_91 : z_m115.2.2.2.2.2.lookup 91 = some (.bipush (-12), 2) := by decide +kernel
theorem q115_93 : z_m115.2.2.2.2.2.lookup 93 = some (.ireturn, 1) := by decide +kernel
theorem q115_94 : z_m115.2.2.2.2.2.lookup 94 = some (.aload 6, 2) := by decide +kernel
theorem q115_96 : z_m115.2.2.2.2.2.lookup 96 = some (.getfield 381, 3) := by decide +kernel
theorem q115_99 : z_m115.2.2.2.2.2.lookup 99 = some (.iload_n 2, 1) := by decide +kernel
theorem q115_100 : z_m115.2.2.2.2.2.lookup 100 = some (.aload 7, 2) := by decide +kernel
theorem q115_102 : z_m115.2.2.2.2.2.lookup 102 = some (.getfield 381, 3) := by decide +kernel
theorem q115_105 : z_m115.2.2.2.2.2.lookup 105 = some (.iload 4, 2) := by decide +kernel
theorem q115_107 : z_m115.2.2.2.2.2.lookup 107 = some (.iload 5, 2) := by decide +kernel
theorem q115_109 : z_m115.2.2.2.2.2.lookup 109 = some (.invokestatic 384, 3) := by decide +kernel
theorem q115_112 : z_m115.2.2.2.2.2.lookup 112 = some (.iload 5, 2) := by decide +kernel
theorem q115_114 : z_m115.2.2.2.2.2.lookup 114 = some (.ireturn, 1) := by decide +kernel
theorem q116_0 : z_m116.2.2.2.2.2.lookup 0 = some (.iload_n 1, 1) := by decide +kernel
theorem q116_1 : z_m116.2.2.2.2.2.lookup 1 = some (.invokestatic 203, 3) := by decide +kernel
theorem q116_4 : z_m116.2.2.2.2.2.lookup 4 = some (.ifCond .eq 17, 3) := by decide +kernel
theorem q116_7 : z_m116.2.2.2.2.2.lookup 7 = some (.iload_n 2, 1) := by decide +kernel
theorem q116_8 : z_m116.2.2.2.2.2.lookup 8 = some (.invokestatic 215, 3) := by decide +kernel
theorem q116_11 : z_m116.2.2.2.2.2.lookup 11 = some (.ifCond .eq 10, 3) := by decide +kernel
theorem q116_14 : z_m116.2.2.2.2.2.lookup 14 = some (.iload_n 3, 1) := by decide +kernel
theorem q116_15 : z_m116.2.2.2.2.2.lookup 15 = some (.invokestatic 361, 3) := by decide +kernel
theorem q116_18 : z_m116.2.2.2.2.2.lookup 18 = some (.ifCond .ne 6, 3) := by decide +kernel
theorem q116_21 : z_m116.2.2.2.2.2.lookup 21 = some (.bipush (-2), 2) := by decide +kernel
theorem q116_23 : z_m116.2.2.2.2.2.lookup 23 = some (.ireturn, 1) := by decide +kernel
theorem q116_24 : z_m116.2.2.2.2.2.lookup 24 = some (.iload 4, 2) := by decide +kernel
theorem q116_26 : z_m116.2.2.2.2.2.lookup 26 = some (.iconst 0, 1) := by decide +kernel
theorem q116_27 : z_m116.2.2.2.2.2.lookup 27 = some (.iconst 2, 1) := by decide +kernel
theorem q116_28 : z_m116.2.2.2.2.2.lookup 28 = some (.invokestatic 128, 3) := by decide +kernel
theorem q116_31 : z_m116.2.2.2.2.2.lookup 31 = some (.ifCond .eq 14, 3) := by decide +kernel
theorem q116_34 : z_m116.2.2.2.2.2.lookup 34 = some (.iload 6, 2) := by decide +kernel
theorem q116_36 : z_m116.2.2.2.2.2.lookup 36 = some (.iconst 0, 1) := by decide +kernel
theorem q116_37 : z_m116.2.2.2.2.2.lookup 37 = some (.bipush 40, 2) := by decide +kernel
theorem q116_39 : z_m116.2.2.2.2.2.lookup 39 = some (.invokestatic 128, 3) := by decide +kernel
theorem q116_42 : z_m116.2.2.2.2.2.lookup 42 = some (.ifCond .ne 6, 3) := by decide +kernel
theorem q116_45 : z_m116.2.2.2.2.2.lookup 45 = some (.bipush (-2), 2) := by decide +kernel
theorem q116_47 : z_m116.2.2.2.2.2.lookup 47 = some (.ireturn, 1) := by decide +kernel
theorem q116_48 : z_m116.2.2.2.2.2.lookup 48 = some (.aload_n 0, 1) := by decide +kernel
theorem q116_49 : z_m116.2.2.2.2.2.lookup 49 = some (.getfield 90, 3) := by decide +kernel
theorem q116_52 : z_m116.2.2.2.2.2.lookup 52 = some (.iload_n 3, 1) := by decide +kernel
theorem q116_53 : z_m116.2.2.2.2.2.lookup 53 = some (.aaload, 1) := by decide +kernel
theorem q116_54 : z_m116.2.2.2.2.2.lookup 54 = some (.astore 7, 2) := by decide +kernel
theorem q116_56 : z_m116.2.2.2.2.2.lookup 56 = some (.aload 7, 2) := by decide +kernel
theorem q116_58 : z_m116.2.2.2.2.2.lookup 58 = some (.invokevirtual 367, 3) := by decide +kernel
theorem q116_61 : z_m116.2.2.2.2.2.lookup 61 = some (.ifCond .ne 16, 3) := by decide +kernel
theorem q116_64 : z_m116.2.2.2.2.2.lookup 64 = some (.aload 7, 2) := by decide +kernel
theorem q116_66 : z_m116.2.2.2.2.2.lookup 66 = some (.getfield 375, 3) := by decide +kernel
theorem q116_69 : z_m116.2.2.2.2.2.lookup 69 = some (.iload 4, 2) := by decide +kernel
theorem q116_71 : z_m116.2.2.2.2.2.lookup 71 = some (.if_icmp .eq 6, 3) := by decide +kernel
theorem q116_74 : z_m116.2.2.2.2.2.lookup 74 = some (.bipush (-13), 2) := by decide +kernel
theorem q116_76 : z_m116.2.2.2.2.2.lookup 76 = some (.ireturn, 1) := by decide +kernel
theorem q116_77 : z_m116.2.2.2.2.2.lookup 77 = some (.aload 7, 2) := by decide +kernel
theorem q116_79 : z_m116.2.2.2.2.2.lookup 79 = some (.invokevirtual 367, 3) := by decide +kernel
theorem q116_82 : z_m116.2.2.2.2.2.lookup 82 = some (.ifCond .eq 8, 3) := by decide +kernel
theorem q116_85 : z_m116.2.2.2.2.2.lookup 85 = some (.bipush (-11), 2) := by decide +kernel
theorem q116_87 : z_m116.2.2.2.2.2.lookup 87 = some (.goto 15, 3) := by decide +kernel
theorem q116_90 : z_m116.2.2.2.2.2.lookup 90 = some (.aload_n 0, 1) := by decide +kernel
theorem q116_91 : z_m116.2.2.2.2.2.lookup 91 = some (.iload_n 1, 1) := by decide +kernel
theorem q116_92 : z_m116.2.2.2.2.2.lookup 92 = some (.iload_n 2, 1) := by decide +kernel
theorem q116_93 : z_m116.2.2.2.2.2.lookup 93 = some (.aload 7, 2) := by decide +kernel
theorem q116_95 : z_m116.2.2.2.2.2.lookup 95 = some (.iload 5, 2) := by decide +kernel
theorem q116_97 : z_m116.2.2.2.2.2.lookup 97 = some (.iload 6, 2) := by decide +kernel
theorem q116_99 : z_m116.2.2.2.2.2.lookup 99 = some (.invokevirtual 390, 3) := by decide +kernel
theorem q116_102 : z_m116.2.2.2.2.2.lookup 102 = some (.ireturn, 1) := by decide +kernel
theorem q117_0 : z_m117.2.2.2.2.2.lookup 0 = some (.aload_n 0, 1) := by decide +kernel
theorem q117_1 : z_m117.2.2.2.2.2.lookup 1 = some (.getfield 23, 3) := by decide +kernel
theorem q117_4 : z_m117.2.2.2.2.2.lookup 4 = some (.getfield 218, 3) := by decide +kernel
theorem q117_7 : z_m117.2.2.2.2.2.lookup 7 = some (.istore 6, 2) := by decide +kernel
theorem q117_9 : z_m117.2.2.2.2.2.lookup 9 = some (.iconst 0, 1) := by decide +kernel
theorem q117_10 : z_m117.2.2.2.2.2.lookup 10 = some (.istore 7, 2) := by decide +kernel
theorem q117_12 : z_m117.2.2.2.2.2.lookup 12 = some (.iload 7, 2) := by decide +kernel
theorem q117_14 : z_m117.2.2.2.2.2.lookup 14 = some (.iload 5, 2) := by decide +kernel
theorem q117_16 : z_m117.2.2.2.2.2.lookup 16 = some (.if_icmp .ge 50, 3) := by decide +kernel
theorem q117_19 : z_m117.2.2.2.2.2.lookup 19 = some (.iload 4, 2) := by decide +kernel
theorem q117_21 : z_m117.2.2.2.2.2.lookup 21 = some (.iconst 0, 1) := by decide +kernel
theorem q117_22 : z_m117.2.2.2.2.2.lookup 22 = some (.aload_n 3, 1) := by decide +kernel
theorem q117_23 : z_m117.2.2.2.2.2.lookup 23 = some (.getfield 371, 3) := by decide +kernel
theorem q117_26 : z_m117.2.2.2.2.2.lookup 26 = some (.iconst 1, 1) := by decide +kernel
theorem q117_27 : z_m117.2.2.2.2.2.lookup 27 = some (.isub, 1) := by decide +kernel
theorem q117_28 : z_m117.2.2.2.2.2.lookup 28 = some (.iload 7, 2) := by decide +kernel
theorem q117_30 : z_m117.2.2.2.2.2.lookup 30 = some (.isub, 1) := by decide +kernel
theorem q117_31 : z_m117.2.2.2.2.2.lookup 31 = some (.invokestatic 128, 3) := by decide +kernel
theorem q117_34 : z_m117.2.2.2.2.2.lookup 34 = some (.ifCond .ne 6, 3) := by decide +kernel
theorem q117_37 : z_m117.2.2.2.2.2.lookup 37 = some (.bipush (-12), 2) := by decide +kernel
theorem q117_39 : z_m117.2.2.2.2.2.lookup 39 = some (.ireturn, 1) := by decide +kernel
theorem q117_40 : z_m117.2.2.2.2.2.lookup 40 = some (.aload_n 0, 1) := by decide +kernel
theorem q117_41 : z_m117.2.2.2.2.2.lookup 41 = some (.iload_n 1, 1) := by decide +kernel
theorem q117_42 : z_m117.2.2.2.2.2.lookup 42 = some (.iload_n 2, 1) := by decide +kernel
theorem q117_43 : z_m117.2.2.2.2.2.lookup 43 = some (.iload 7, 2) := by decide +kernel
theorem q117_45 : z_m117.2.2.2.2.2.lookup 45 = some (.iadd, 1) := by decide +kernel
theorem q117_46 : z_m117.2.2.2.2.2.lookup 46 = some (.aload_n 3, 1) := by decide +kernel
theorem q117_47 : z_m117.2.2.2.2.2.lookup 47 = some (.getfield 381, 3) := by decide +kernel
theorem q117_50 : z_m117.2.2.2.2.2.lookup 50 = some (.iload 4, 2) := by decide +kernel
theorem q117_52 : z_m117.2.2.2.2.2.lookup 52 = some (.iload 7, 2) := by decide +kernel
theorem q117_54 : z_m117.2.2.2.2.2.lookup 54 = some (.iadd, 1) := by decide +kernel
theorem q117_55 : z_m117.2.2.2.2.2.lookup 55 = some (.iaload, 1) := by decide +kernel
theorem q117_56 : z_m117.2.2.2.2.2.lookup 56 = some (.invokevirtual 394, 3) := by decide +kernel
theorem q117_59 : z_m117.2.2.2.2.2.lookup 59 = some (.pop, 1) := by decide +kernel
theorem q117_60 : z_m117.2.2.2.2.2.lookup 60 = some (.iinc 7 1, 3) := by decide +kernel
theorem q117_63 : z_m117.2.2.2.2.2.lookup 63 = some (.goto (-51), 3) := by decide +kernel
theorem q117_66 : z_m117.2.2.2.2.2.lookup 66 = some (.aload_n 0, 1) := by decide +kernel
theorem q117_67 : z_m117.2.2.2.2.2.lookup 67 = some (.getfield 23, 3) := by decide +kernel
theorem q117_70 : z_m117.2.2.2.2.2.lookup 70 = some (.getfield 218, 3) := by decide +kernel
theorem q117_73 : z_m117.2.2.2.2.2.lookup 73 = some (.iload 6, 2) := by decide +kernel
theorem q117_75 : z_m117.2.2.2.2.2.lookup 75 = some (.isub, 1) := by decide +kernel
theorem q117_76 : z_m117.2.2.2.2.2.lookup 76 = some (.ireturn, 1) := by decide +kernel
theorem q118_0 : z_m118.2.2.2.2.2.lookup 0 = some (.iload_n 2, 1) := by decide +kernel
theorem q118_1 : z_m118.2.2.2.2.2.lookup 1 = some (.iconst 0, 1) := by decide +kernel
theorem q118_2 : z_m118.2.2.2.2.2.lookup 2 = some (.iconst 5, 1) := by decide +kernel
theorem q118_3 : z_m118.2.2.2.2.2.lookup 3 = some (.invokestatic 128, 3) := by decide +kernel
theorem q118_6 : z_m118.2.2.2.2.2.lookup 6 = some (.ifCond .ne 6, 3) := by decide +kernel
theorem q118_9 : z_m118.2.2.2.2.2.lookup 9 = some (.bipush (-2), 2) := by decide +kernel
theorem q118_11 : z_m118.2.2.2.2.2.lookup 11 = some (.ireturn, 1) := by decide +kernel
theorem q118_12 : z_m118.2.2.2.2.2.lookup 12 = some (.aload_n 0, 1) := by decide +kernel
theorem q118_13 : z_m118.2.2.2.2.2.lookup 13 = some (.getfield 10, 3) := by decide +kernel
theorem q118_16 : z_m118.2.2.2.2.2.lookup 16 = some (.iload_n 1, 1) := by decide +kernel
theorem q118_17 : z_m118.2.2.2.2.2.lookup 17 = some (.invokevirtual 153, 3) := by decide +kernel
theorem q118_20 : z_m118.2.2.2.2.2.lookup 20 = some (.ifCond .ne 6, 3) := by decide +kernel
theorem q118_23 : z_m118.2.2.2.2.2.lookup 23 = some (.bipush (-11), 2) := by decide +kernel
theorem q118_25 : z_m118.2.2.2.2.2.lookup 25 = some (.ireturn, 1) := by decide +kernel
theorem q118_26 : z_m118.2.2.2.2.2.lookup 26 = some (.aload_n 0, 1) := by decide +kernel
theorem q118_27 : z_m118.2.2.2.2.2.lookup 27 = some (.getfield 10, 3) := by decide +kernel
theorem q118_30 : z_m118.2.2.2.2.2.lookup 30 = some (.iload_n 1, 1) := by decide +kernel
theorem q118_31 : z_m118.2.2.2.2.2.lookup 31 = some (.iload_n 2, 1) := by decide +kernel
theorem q118_32 : z_m118.2.2.2.2.2.lookup 32 = some (.invokevirtual 397, 3) := by decide +kernel
theorem q118_35 : z_m118.2.2.2.2.2.lookup 35 = some (.ifCond .eq 15, 3) := by decide +kernel
theorem q118_38 : z_m118.2.2.2.2.2.lookup 38 = some (.aload_n 0, 1) := by decide +kernel
theorem q118_39 : z_m118.2.2.2.2.2.lookup 39 = some (.getfield 10, 3) := by decide +kernel
theorem q118_42 : z_m118.2.2.2.2.2.lookup 42 = some (.getfield 165, 3) := by decide +kernel
theorem q118_45 : z_m118.2.2.2.2.2.lookup 45 = some (.iload_n 1, 1) := by decide +kernel
theorem q118_46 : z_m118.2.2.2.2.2.lookup 46 = some (.iaload, 1) := by decide +kernel
theorem q118_47 : z_m118.2.2.2.2.2.lookup 47 = some (.goto 5, 3) := by decide +kernel
theorem q118_50 : z_m118.2.2.2.2.2.lookup 50 = some (.bipush (-13), 2) := by decide +kernel
theorem q118_52 : z_m118.2.2.2.2.2.lookup 52 = some (.ireturn, 1) := by decide +kernel
theorem q119_0 : z_m119.2.2.2.2.2.lookup 0 = some (.iload_n 0, 1) := by decide +kernel
theorem q119_1 : z_m119.2.2.2.2.2.lookup 1 = some (.iload_n 1, 1) := by decide +kernel
theorem q119_2 : z_m119.2.2.2.2.2.lookup 2 = some (.if_icmp .lt 12, 3) := by decide +kernel
theorem q119_5 : z_m119.2.2.2.2.2.lookup 5 = some (.iload_n 0, 1) := by decide +kernel
theorem q119_6 : z_m119.2.2.2.2.2.lookup 6 = some (.iload_n 2, 1) := by decide +kernel
theorem q119_7 : z_m119.2.2.2.2.2.lookup 7 = some (.if_icmp .gt 7, 3) := by decide +kernel
theorem q119_10 : z_m119.2.2.2.2.2.lookup 10 = some (.iconst 1, 1) := by decide +kernel
theorem q119_11 : z_m119.2.2.2.2.2.lookup 11 = some (.goto 4, 3) := by decide +kernel
theorem q119_14 : z_m119.2.2.2.2.2.lookup 14 = some (.iconst 0, 1) := by decide +kernel
theorem q119_15 : z_m119.2.2.2.2.2.lookup 15 = some (.ireturn, 1) := by decide +kernel
theorem q120_0 : z_m120.2.2.2.2.2.lookup 0 = some (.iload_n 0, 1) := by decide +kernel
theorem q120_1 : z_m120.2.2.2.2.2.lookup 1 = some (.iconst 0, 1) := by decide +kernel
theorem q120_2 : z_m120.2.2.2.2.2.lookup 2 = some (.iconst 5, 1) := by decide +kernel
theorem q120_3 : z_m120.2.2.2.2.2.lookup 3 = some (.invokestatic 128, 3) := by decide +kernel
theorem q120_6 : z_m120.2.2.2.2.2.lookup 6 = some (.ireturn, 1) := by decide +kernel
theorem q121_0 : z_m121.2.2.2.2.2.lookup 0 = some (.iload_n 0, 1) := by decide +kernel
theorem q121_1 : z_m121.2.2.2.2.2.lookup 1 = some (.iconst 0, 1) := by decide +kernel
theorem q121_2 : z_m121.2.2.2.2.2.lookup 2 = some (.iconst 4, 1) := by decide +kernel
theorem q121_3 : z_m121.2.2.2.2.2.lookup 3 = some (.invokestatic 128, 3) := by decide +kernel
theorem q121_6 : z_m121.2.2.2.2.2.lookup 6 = some (.ireturn, 1) := by decide +kernel
theorem q122_0 : z_m122.2.2.2.2.2.lookup 0 = some (.iload_n 0, 1) := by decide +kernel
theorem q122_1 : z_m122.2.2.2.2.2.lookup 1 = some (.iconst 0, 1) := by decide +kernel
theorem q122_2 : z_m122.2.2.2.2.2.lookup 2 = some (.iconst 3, 1) := by decide +kernel
theorem q122_3 : z_m122.2.2.2.2.2.lookup 3 = some (.invokestatic 128, 3) := by decide +kernel
theorem q122_6 : z_m122.2.2.2.2.2.lookup 6 = some (.ireturn, 1) := by decide +kernel
theorem q123_0 : z_m123.2.2.2.2.2.lookup 0 = some (.iload_n 0, 1) := by decide +kernel
theorem q123_1 : z_m123.2.2.2.2.2.lookup 1 = some (.iconst 0, 1) := by decide +kernel
theorem q123_2 : z_m123.2.2.2.2.2.lookup 2 = some (.bipush 9, 2) := by decide +kernel
theorem q123_4 : z_m123.2.2.2.2.2.lookup 4 = some (.invokestatic 128, 3) := by decide +kernel
theorem q123_7 : z_m123.2.2.2.2.2.lookup 7 = some (.ireturn, 1) := by decide +kernel
theorem q124_0 : z_m124.2.2.2.2.2.lookup 0 = some (.iload_n 0, 1) := by decide +kernel
theorem q124_1 : z_m124.2.2.2.2.2.lookup 1 = some (.iconst 0, 1) := by decide +kernel
theorem q124_2 : z_m124.2.2.2.2.2.lookup 2 = some (.iconst 3, 1) := by decide +kernel
theorem q124_3 : z_m124.2.2.2.2.2.lookup 3 = some (.invokestatic 128, 3) := by decide +kernel
theorem q124_6 : z_m124.2.2.2.2.2.lookup 6 = some (.ireturn, 1) := by decide +kernel
theorem q125_0 : z_m125.2.2.2.2.2.lookup 0 = some (.iload_n 0, 1) := by decide +kernel
theorem q125_1 : z_m125.2.2.2.2.2.lookup 1 = some (.iconst 0, 1) := by decide +kernel
theorem q125_2 : z_m125.2.2.2.2.2.lookup 2 = some (.sipush 399, 3) := by decide +kernel
theorem q125_5 : z_m125.2.2.2.2.2.lookup 5 = some (.invokestatic 128, 3) := by decide +kernel
theorem q125_8 : z_m125.2.2.2.2.2.lookup 8 = some (.ireturn, 1) := by decide +kernel
theorem q126_0 : z_m126.2.2.2.2.2.lookup 0 = some (.iload_n 0, 1) := by decide +kernel
theorem q126_1 : z_m126.2.2.2.2.2.lookup 1 = some (.invokestatic 215, 3) := by decide +kernel
theorem q126_4 : z_m126.2.2.2.2.2.lookup 4 = some (.ifCond .eq 19, 3) := by decide +kernel
theorem q126_7 : z_m126.2.2.2.2.2.lookup 7 = some (.iload_n 1, 1) := by decide +kernel
theorem q126_8 : z_m126.2.2.2.2.2.lookup 8 = some (.invokestatic 215, 3) := by decide +kernel
theorem q126_11 : z_m126.2.2.2.2.2.lookup 11 = some (.ifCond .eq 12, 3) := by decide +kernel
theorem q126_14 : z_m126.2.2.2.2.2.lookup 14 = some (.iload_n 0, 1) := by decide +kernel
theorem q126_15 : z_m126.2.2.2.2.2.lookup 15 = some (.iload_n 1, 1) := by decide +kernel
theorem q126_16 : z_m126.2.2.2.2.2.lookup 16 = some (.if_icmp .gt 7, 3) := by decide +kernel
theorem q126_19 : z_m126.2.2.2.2.2.lookup 19 = some (.iconst 1, 1) := by decide +kernel
theorem q126_20 : z_m126.2.2.2.2.2.lookup 20 = some (.goto 4, 3) := by decide +kernel
theorem q126_23 : z_m126.2.2.2.2.2.lookup 23 = some (.iconst 0, 1) := by decide +kernel
theorem q126_24 : z_m126.2.2.2.2.2.lookup 24 = some (.ireturn, 1) := by decide +kernel
