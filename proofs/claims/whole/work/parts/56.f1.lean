theorem q169_0 : z_m169.2.2.2.2.2.lookup 0 = some (.aload_n 0, 1) := by decide +kernel
theorem q169_1 : z_m169.2.2.2.2.2.lookup 1 = some (.invokespecial 251, 3) := by decide +kernel
theorem q169_4 : z_m169.2.2.2.2.2.lookup 4 = some (.aload_n 0, 1) := by decide +kernel
theorem q169_5 : z_m169.2.2.2.2.2.lookup 5 = some (.bipush 24, 2) := by decide +kernel
theorem q169_7 : z_m169.2.2.2.2.2.lookup 7 = some (.newarray .int, 2) := by decide +kernel
theorem q169_9 : z_m169.2.2.2.2.2.lookup 9 = some (.dup, 1) := by decide +kernel
theorem q169_10 : z_m169.2.2.2.2.2.lookup 10 = some (.iconst 0, 1) := by decide +kernel
theorem q169_11 : z_m169.2.2.2.2.2.lookup 11 = some (.bipush 20, 2) := by decide +kernel
theorem q169_13 : z_m169.2.2.2.2.2.lookup 13 = some (.iastore, 1) := by decide +kernel
theorem q169_14 : z_m169.2.2.2.2.2.lookup 14 = some (.dup, 1) := by decide +kernel
theorem q169_15 : z_m169.2.2.2.2.2.lookup 15 = some (.iconst 1, 1) := by decide +kernel
theorem q169_16 : z_m169.2.2.2.2.2.lookup 16 = some (.bipush 40, 2) := by decide +kernel
theorem q169_18 : z_m169.2.2.2.2.2.lookup 18 = some (.iastore, 1) := by decide +kernel
theorem q169_19 : z_m169.2.2.2.2.2.lookup 19 = some (.dup, 1) := by decide +kernel
theorem q169_20 : z_m169.2.2.2.2.2.lookup 20 = some (.iconst 2, 1) := by decide +kernel
theorem q169_21 : z_m169.2.2.2.2.2.lookup 21 = some (.iconst 5, 1) := by decide +kernel
theorem q169_22 : z_m169.2.2.2.2.2.lookup 22 = some (.iastore, 1) := by decide +kernel
theorem q169_23 : z_m169.2.2.2.2.2.lookup 23 = some (.dup, 1) := by decide +kernel
theorem q169_24 : z_m169.2.2.2.2.2.lookup 24 = some (.iconst 3, 1) := by decide +kernel
theorem q169_25 : z_m169.2.2.2.2.2.lookup 25 = some (.iconst 3, 1) := by decide +kernel
theorem q169_26 : z_m169.2.2.2.2.2.lookup 26 = some (.iastore, 1) := by decide +kernel
theorem q169_27 : z_m169.2.2.2.2.2.lookup 27 = some (.dup, 1) := by decide +kernel
theorem q169_28 : z_m169.2.2.2.2.2.lookup 28 = some (.iconst 4, 1) := by decide +kernel
theorem q169_29 : z_m169.2.2.2.2.2.lookup 29 = some (.bipush 50, 2) := by decide +kernel
theorem q169_31 : z_m169.2.2.2.2.2.lookup 31 = some (.iastore, 1) := by decide +kernel
theorem q169_32 : z_m169.2.2.2.2.2.lookup 32 = some (.dup, 1) := by decide +kernel
theorem q169_33 : z_m169.2.2.2.2.2.lookup 33 = some (.iconst 5, 1) := by decide +kernel
theorem q169_34 : z_m169.2.2.2.2.2.lookup 34 = some (.bipush 40, 2) := by decide +kernel
theorem q169_36 : z_m169.2.2.2.2.2.lookup 36 = some (.iastore, 1) := by decide +kernel
theorem q169_37 : z_m169.2.2.2.2.2.lookup 37 = some (.dup, 1) := by decide +kernel
theorem q169_38 : z_m169.2.2.2.2.2.lookup 38 = some (.bipush 6, 2) := by decide +kernel
theorem q169_40 : z_m169.2.2.2.2.2.lookup 40 = some (.iconst 5, 1) := by decide +kernel
theorem q169_41 : z_m169.2.2.2.2.2.lookup 41 = some (.iastore, 1) := by decide +kernel
theorem q169_42 : z_m169.2.2.2.2.2.lookup 42 = some (.dup, 1) := by decide +kernel
theorem q169_43 : z_m169.2.2.2.2.2.lookup 43 = some (.bipush 7, 2) := by decide +kernel
theorem q169_45 : z_m169.2.2.2.2.2.lookup 45 = some (.iconst 3, 1) := by decide +kernel
theorem q169_46 : z_m169.2.2.2.2.2.lookup 46 = some (.iastore, 1) := by decide +kernel
theorem q169_47 : z_m169.2.2.2.2.2.lookup 47 = some (.dup, 1) := by decide +kernel
theorem q169_48 : z_m169.2.2.2.2.2.lookup 48 = some (.bipush 8, 2) := by decide +kernel
theorem q169_50 : z_m169.2.2.2.2.2.lookup 50 = some (.bipush 10, 2) := by decide +kernel
theorem q169_52 : z_m169.2.2.2.2.2.lookup 52 = some (.iastore, 1) := by decide +kernel
theorem q169_53 : z_m169.2.2.2.2.2.lookup 53 = some (.dup, 1) := by decide +kernel
theorem q169_54 : z_m169.2.2.2.2.2.lookup 54 = some (.bipush 9, 2) := by decide +kernel
theorem q169_56 : z_m169.2.2.2.2.2.lookup 56 = some (.bipush 50, 2) := by decide +kernel
theorem q169_58 : z_m169.2.2.2.2.2.lookup 58 = some (.iastore, 1) := by decide +kernel
theorem q169_59 : z_m169.2.2.2.2.2.lookup 59 = some (.dup, 1) := by decide +kernel
theorem q169_60 : z_m169.2.2.2.2.2.lookup 60 = some (.bipush 10, 2) := by decide +kernel
theorem q169_62 : z_m169.2.2.2.2.2.lookup 62 = some (.bipush 10, 2) := by decide +kernel
theorem q169_64 : z_m169.2.2.2.2.2.lookup 64 = some (.iastore, 1) := by decide +kernel
theorem q169_65 : z_m169.2.2.2.2.2.lookup 65 = some (.dup, 1) := by decide +kernel
theorem q169_66 : z_m169.2.2.2.2.2.lookup 66 = some (.bipush 11, 2) := by decide +kernel
theorem q169_68 : z_m169.2.2.2.2.2.lookup 68 = some (.iconst 3, 1) := by decide +kernel
theorem q169_69 : z_m169.2.2.2.2.2.lookup 69 = some (.iastore, 1) := by decide +kernel
theorem q169_70 : z_m169.2.2.2.2.2.lookup 70 = some (.dup, 1) := by decide +kernel
theorem q169_71 : z_m169.2.2.2.2.2.lookup 71 = some (.bipush 12, 2) := by decide +kernel
theorem q169_73 : z_m169.2.2.2.2.2.lookup 73 = some (.bipush 70, 2) := by decide +kernel
theorem q169_75 : z_m169.2.2.2.2.2.lookup 75 = some (.iastore, 1) := by decide +kernel
theorem q169_76 : z_m169.2.2.2.2.2.lookup 76 = some (.dup, 1) := by decide +kernel
theorem q169_77 : z_m169.2.2.2.2.2.lookup 77 = some (.bipush 13, 2) := by decide +kernel
theorem q169_79 : z_m169.2.2.2.2.2.lookup 79 = some (.bipush 20, 2) := by decide +kernel
theorem q169_81 : z_m169.2.2.2.2.2.lookup 81 = some (.iastore, 1) := by decide +kernel
theorem q169_82 : z_m169.2.2.2.2.2.lookup 82 = some (.dup, 1) := by decide +kernel
theorem q169_83 : z_m169.2.2.2.2.2.lookup 83 = some (.bipush 14, 2) := by decide +kernel
theorem q169_85 : z_m169.2.2.2.2.2.lookup 85 = some (.iconst 0, 1) := by decide +kernel
theorem q169_86 : z_m169.2.2.2.2.2.lookup 86 = some (.iastore, 1) := by decide +kernel
theorem q169_87 : z_m169.2.2.2.2.2.lookup 87 = some (.dup, 1) := by decide +kernel
theorem q169_88 : z_m169.2.2.2.2.2.lookup 88 = some (.bipush 15, 2) := by decide +kernel
theorem q169_90 : z_m169.2.2.2.2.2.lookup 90 = some (.iconst 3, 1) := by decide +kernel
theorem q169_91 : z_m169.2.2.2.2.2.lookup 91 = some (.iastore, 1) := by decide +kernel
theorem q169_92 : z_m169.2.2.2.2.2.lookup 92 = some (.dup, 1) := by decide +kernel
theorem q169_93 : z_m169.2.2.2.2.2.lookup 93 = some (.bipush 16, 2) := by decide +kernel
theorem q169_95 : z_m169.2.2.2.2.2.lookup 95 = some (.bipush 10, 2) := by decide +kernel
theorem q169_97 : z_m169.2.2.2.2.2.lookup 97 = some (.iastore, 1) := by decide +kernel
theorem q169_98 : z_m169.2.2.2.2.2.lookup 98 = some (.dup, 1) := by decide +kernel
theorem q169_99 : z_m169.2.2.2.2.2.lookup 99 = some (.bipush 17, 2) := by decide +kernel
theorem q169_101 : z_m169.2.2.2.2.2.lookup 101 = some (.bipush 70, 2) := by decide +kernel
theorem q169_103 : z_m169.2.2.2.2.2.lookup 103 = some (.iastore, 1) := by decide +kernel
theorem q169_104 : z_m169.2.2.2.2.2.lookup 104 = some (.dup, 1) := by decide +kernel
theorem q169_105 : z_m169.2.2.2.2.2.lookup 105 = some (.bipush 18, 2) := by decide +kernel
theorem q169_107 : z_m169.2.2.2.2.2.lookup 107 = some (.bipush 20, 2) := by decide +kernel
theorem q169_109 : z_m169.2.2.2.2.2.lookup 109 = some (.iastore, 1) := by decide +kernel
theorem q169_110 : z_m169.2.2.2.2.2.lookup 110 = some (.dup, 1) := by decide +kernel
theorem q169_111 : z_m169.2.2.2.2.2.lookup 111 = some (.bipush 19, 2) := by decide +kernel
theorem q169_113 : z_m169.2.2.2.2.2.lookup 113 = some (.iconst 0, 1) := by decide +kernel
theorem q169_114 : z_m169.2.2.2.2.2.lookup 114 = some (.iastore, 1) := by decide +kernel
theorem q169_115 : z_m169.2.2.2.2.2.lookup 115 = some (.dup, 1) := by decide +kernel
theorem q169_116 : z_m169.2.2.2.2.2.lookup 116 = some (.bipush 20, 2) := by decide +kernel
theorem q169_118 : z_m169.2.2.2.2.2.lookup 118 = some (.bipush 10, 2) := by decide +kernel
theorem q169_120 : z_m169.2.2.2.2.2.lookup 120 = some (.iastore, 1) := by decide +kernel
theorem q169_121 : z_m169.2.2.2.2.2.lookup 121 = some (.dup, 1) := by decide +kernel
theorem q169_122 : z_m169.2.2.2.2.2.lookup 122 = some (.bipush 21, 2) := by decide +kernel
theorem q169_124 : z_m169.2.2.2.2.2.lookup 124 = some (.bipush 80, 2) := by decide +kernel
theorem q169_126 : z_m169.2.2.2.2.2.lookup 126 = some (.iastore, 1) := by decide +kernel
theorem q169_127 : z_m169.2.2.2.2.2.lookup 127 = some (.dup, 1) := by decide +kernel
theorem q169_128 : z_m169.2.2.2.2.2.lookup 128 = some (.bipush 22, 2) := by decide +kernel
theorem q169_130 : z_m169.2.2.2.2.2.lookup 130 = some (.iconst 5, 1) := by decide +kernel
theorem q169_131 : z_m169.2.2.2.2.2.lookup 131 = some (.iastore, 1) := by decide +kernel
theorem q169_132 : z_m169.2.2.2.2.2.lookup 132 = some (.dup, 1) := by decide +kernel
theorem q169_133 : z_m169.2.2.2.2.2.lookup 133 = some (.bipush 23, 2) := by decide +kernel
theorem q169_135 : z_m169.2.2.2.2.2.lookup 135 = some (.iconst 3, 1) := by decide +kernel
theorem q169_136 : z_m169.2.2.2.2.2.lookup 136 = some (.iastore, 1) := by decide +kernel
theorem q169_137 : z_m169.2.2.2.2.2.lookup 137 = some (.putfield 63, 3) := by decide +kernel
theorem q169_140 : z_m169.2.2.2.2.2.lookup 140 = some (.aload_n 0, 1) := by decide +kernel
theorem q169_141 : z_m169.2.2.2.2.2.lookup 141 = some (.bipush 6, 2) := by decide +kernel
theorem q169_143 : z_m169.2.2.2.2.2.lookup 143 = some (.newarray .int, 2) := by decide +kernel
theorem q169_145 : z_m169.2.2.2.2.2.lookup 145 = some (.dup, 1) := by decide +kernel
theorem q169_146 : z_m169.2.2.2.2.2.lookup 146 = some (.iconst 0, 1) := by decide +kernel
theorem q169_147 : z_m169.2.2.2.2.2.lookup 147 = some (.bipush 10, 2) := by decide +kernel
theorem q169_149 : z_m169.2.2.2.2.2.lookup 149 = some (.iastore, 1) := by decide +kernel
theorem q169_150 : z_m169.2.2.2.2.2.lookup 150 = some (.dup, 1) := by decide +kernel
theorem q169_151 : z_m169.2.2.2.2.2.lookup 151 = some (.iconst 1, 1) := by decide +kernel
theorem q169_152 : z_m169.2.2.2.2.2.lookup 152 = some (.iconst 5, 1) := by decide +kernel
theorem q169_153 : z_m169.2.2.2.2.2.lookup 153 = some (.iastore, 1) := by decide +kernel
theorem q169_154 : z_m169.2.2.2.2.2.lookup 154 = some (.dup, 1) := by decide +kernel
theorem q169_155 : z_m169.2.2.2.2.2.lookup 155 = some (.iconst 2, 1) := by decide +kernel
theorem q169_156 : z_m169.2.2.2.2.2.lookup 156 = some (.bipush 25, 2) := by decide +kernel
theorem q169_158 : z_m169.2.2.2.2.2.lookup 158 = some (.iastore, 1) := by decide +kernel
theorem q169_159 : z_m169.2.2.2.2.2.lookup 159 = some (.dup, 1) := by decide +kernel
theorem q169_160 : z_m169.2.2.2.2.2.lookup 160 = some (.iconst 3, 1) := by decide +kernel
theorem q169_161 : z_m169.2.2.2.2.2.lookup 161 = some (.iconst 5, 1) := by decide +kernel
theorem q169_162 : z_m169.2.2.2.2.2.lookup 162 = some (.iastore, 1) := by decide +kernel
theorem q169_163 : z_m169.2.2.2.2.2.lookup 163 = some (.dup, 1) := by decide +kernel
theorem q169_164 : z_m169.2.2.2.2.2.lookup 164 = some (.iconst 4, 1) := by decide +kernel
theorem q169_165 : z_m169.2.2.2.2.2.lookup 165 = some (.bipush 30, 2) := by decide +kernel
theorem q169_167 : z_m169.2.2.2.2.2.lookup 167 = some (.iastore, 1) := by decide +kernel
theorem q169_168 : z_m169.2.2.2.2.2.lookup 168 = some (.dup, 1) := by decide +kernel
theorem q169_169 : z_m169.2.2.2.2.2.lookup 169 = some (.iconst 5, 1) := by decide +kernel
theorem q169_170 : z_m169.2.2.2.2.2.lookup 170 = some (.bipush 10, 2) := by decide +kernel
theorem q169_172 : z_m169.2.2.2.2.2.lookup 172 = some (.iastore, 1) := by decide +kernel
theorem q169_173 : z_m169.2.2.2.2.2.lookup 173 = some (.putfield 70, 3) := by decide +kernel
theorem q169_176 : z_m169.2.2.2.2.2.lookup 176 = some (.aload_n 0, 1) := by decide +kernel
theorem q169_177 : z_m169.2.2.2.2.2.lookup 177 = some (.bipush 40, 2) := by decide +kernel
theorem q169_179 : z_m169.2.2.2.2.2.lookup 179 = some (.newarray .int, 2) := by decide +kernel
theorem q169_181 : z_m169.2.2.2.2.2.lookup 181 = some (.putfield 35, 3) := by decide +kernel
theorem q169_184 : z_m169.2.2.2.2.2.lookup 184 = some (.aload_n 0, 1) := by decide +kernel
theorem q169_185 : z_m169.2.2.2.2.2.lookup 185 = some (.bipush 40, 2) := by decide +kernel
theorem q169_187 : z_m169.2.2.2.2.2.lookup 187 = some (.newarray .int, 2) := by decide +kernel
theorem q169_189 : z_m169.2.2.2.2.2.lookup 189 = some (.putfield 39, 3) := by decide +kernel
theorem q169_192 : z_m169.2.2.2.2.2.lookup 192 = some (.aload_n 0, 1) := by decide +kernel
theorem q169_193 : z_m169.2.2.2.2.2.lookup 193 = some (.bipush 40, 2) := by decide +kernel
theorem q169_195 : z_m169.2.2.2.2.2.lookup 195 = some (.newarray .int, 2) := by decide +kernel
theorem q169_197 : z_m169.2.2.2.2.2.lookup 197 = some (.putfield 42, 3) := by decide +kernel
theorem q169_200 : z_m169.2.2.2.2.2.lookup 200 = some (.aload_n 0, 1) := by decide +kernel
theorem q169_201 : z_m169.2.2.2.2.2.lookup 201 = some (.bipush 40, 2) := by decide +kernel
theorem q169_203 : z_m169.2.2.2.2.2.lookup 203 = some (.newarray .int, 2) := by decide +kernel
theorem q169_205 : z_m169.2.2.2.2.2.lookup 205 = some (.putfield 45, 3) := by decide +kernel
theorem q169_208 : z_m169.2.2.2.2.2.lookup 208 = some (.aload_n 0, 1) := by decide +kernel
theorem q169_209 : z_m169.2.2.2.2.2.lookup 209 = some (.bipush 40, 2) := by decide +kernel
theorem q169_211 : z_m169.2.2.2.2.2.lookup 211 = some (.newarray .int, 2) := by decide +kernel
theorem q169_213 : z_m169.2.2.2.2.2.lookup 213 = some (.putfield 48, 3) := by decide +kernel
theorem q169_216 : z_m169.2.2.2.2.2.lookup 216 = some (.aload_n 0, 1) := by decide +kernel
theorem q169_217 : z_m169.2.2.2.2.2.lookup 217 = some (.bipush 40, 2) := by decide +kernel
theorem q169_219 : z_m169.2.2.2.2.2.lookup 219 = some (.newarray .int, 2) := by decide +kernel
theorem q169_221 : z_m169.2.2.2.2.2.lookup 221 = some (.putfield 51, 3) := by decide +kernel
theorem q169_224 : z_m169.2.2.2.2.2.lookup 224 = some (.aload_n 0, 1) := by decide +kernel
theorem q169_225 : z_m169.2.2.2.2.2.lookup 225 = some (.bipush 40, 2) := by decide +kernel
theorem q169_227 : z_m169.2.2.2.2.2.lookup 227 = some (.newarray .int, 2) := by decide +kernel
theorem q169_229 : z_m169.2.2.2.2.2.lookup 229 = some (.putfield 54, 3) := by decide +kernel
theorem q169_232 : z_m169.2.2.2.2.2.lookup 232 = some (.aload_n 0, 1) := by decide +kernel
theorem q169_233 : z_m169.2.2.2.2.2.lookup 233 = some (.bipush 40, 2) := by decide +kernel
theorem q169_235 : z_m169.2.2.2.2.2.lookup 235 = some (.newarray .int, 2) := by decide +kernel
theorem q169_237 : z_m169.2.2.2.2.2.lookup 237 = some (.putfield 57, 3) := by decide +kernel
theorem q169_240 : z_m169.2.2.2.2.2.lookup 240 = some (.aload_n 0, 1) := by decide +kernel
theorem q169_241 : z_m169.2.2.2.2.2.lookup 241 = some (.bipush 40, 2) := by decide +kernel
theorem q169_243 : z_m169.2.2.2.2.2.lookup 243 = some (.newarray .int, 2) := by decide +kernel
theorem q169_245 : z_m169.2.2.2.2.2.lookup 245 = some (.putfield 60, 3) := by decide +kernel
theorem q169_248 : z_m169.2.2.2.2.2.lookup 248 = some (.aload_n 0, 1) := by decide +kernel
theorem q169_249 : z_m169.2.2.2.2.2.lookup 249 = some (.bipush 40, 2) := by decide +kernel
theorem q169_251 : z_m169.2.2.2.2.2.lookup 251 = some (.newarray .boolean, 2) := by decide +kernel
theorem q169_253 : z_m169.2.2.2.2.2.lookup 253 = some (.putfield 85, 3) := by decide +kernel
theorem q169_256 : z_m169.2.2.2.2.2.lookup 256 = some (.aload_n 0, 1) := by decide +kernel
theorem q169_257 : z_m169.2.2.2.2.2.lookup 257 = some (.bipush 6, 2) := by decide +kernel
theorem q169_259 : z_m169.2.2.2.2.2.lookup 259 = some (.newarray .int, 2) := by decide +kernel
theorem q169_261 : z_m169.2.2.2.2.2.lookup 261 = some (.putfield 91, 3) := by decide +kernel
theorem q169_264 : z_m169.2.2.2.2.2.lookup 264 = some (.aload_n 0, 1) := by decide +kernel
theorem q169_265 : z_m169.2.2.2.2.2.lookup 265 = some (.bipush 40, 2) := by decide +kernel
theorem q169_267 : z_m169.2.2.2.2.2.lookup 267 = some (.newarray .int, 2) := by decide +kernel
theorem q169_269 : z_m169.2.2.2.2.2.lookup 269 = some (.putfield 113, 3) := by decide +kernel
theorem q169_272 : z_m169.2.2.2.2.2.lookup 272 = some (.aload_n 0, 1) := by decide +kernel
theorem q169_273 : z_m169.2.2.2.2.2.lookup 273 = some (.bipush 40, 2) := by decide +kernel
theorem q169_275 : z_m169.2.2.2.2.2.lookup 275 = some (.newarray .int, 2) := by decide +kernel
theorem q169_277 : z_m169.2.2.2.2.2.lookup 277 = some (.putfield 116, 3) := by decide +kernel
theorem q169_280 : z_m169.2.2.2.2.2.lookup 280 = some (.aload_n 0, 1) := by decide +kernel
theorem q169_281 : z_m169.2.2.2.2.2.lookup 281 = some (.bipush 40, 2) := by decide +kernel
theorem q169_283 : z_m169.2.2.2.2.2.lookup 283 = some (.newarray .int, 2) := by decide +kernel
theorem q169_285 : z_m169.2.2.2.2.2.lookup 285 = some (.putfield 119, 3) := by decide +kernel
theorem q169_288 : z_m169.2.2.2.2.2.lookup 288 = some (.aload_n 0, 1) := by decide +kernel
theorem q169_289 : z_m169.2.2.2.2.2.lookup 289 = some (.bipush 40, 2) := by decide +kernel
theorem q169_291 : z_m169.2.2.2.2.2.lookup 291 = some (.newarray .int, 2) := by decide +kernel
theorem q169_293 : z_m169.2.2.2.2.2.lookup 293 = some (.putfield 122, 3) := by decide +kernel
theorem q169_296 : z_m169.2.2.2.2.2.lookup 296 = some (.aload_n 0, 1) := by decide +kernel
theorem q169_297 : z_m169.2.2.2.2.2.lookup 297 = some (.sipush 160, 3) := by decide +kernel
theorem q169_300 : z_m169.2.2.2.2.2.lookup 300 = some (.newarray .byte, 2) := by decide +kernel
theorem q169_302 : z_m169.2.2.2.2.2.lookup 302 = some (.putfield 130, 3) := by decide +kernel
theorem q169_305 : z_m169.2.2.2.2.2.lookup 305 = some (.aload_n 0, 1) := by decide +kernel
theorem q169_306 : z_m169.2.2.2.2.2.lookup 306 = some (.sipush 2880, 3) := by decide +kernel
theorem q169_309 : z_m169.2.2.2.2.2.lookup 309 = some (.newarray .int, 2) := by decide +kernel
theorem q169_311 : z_m169.2.2.2.2.2.lookup 311 = some (.putfield 166, 3) := by decide +kernel
theorem q169_314 : z_m169.2.2.2.2.2.lookup 314 = some (.aload_n 0, 1) := by decide +kernel
theorem q169_315 : z_m169.2.2.2.2.2.lookup 315 = some (.bipush 18, 2) := by decide +kernel
theorem q169_317 : z_m169.2.2.2.2.2.lookup 317 = some (.newarray .int, 2) := by decide +kernel
theorem q169_319 : z_m169.2.2.2.2.2.lookup 319 = some (.putfield 213, 3) := by decide +kernel
theorem q169_322 : z_m169.2.2.2.2.2.lookup 322 = some (.aload_n 0, 1) := by decide +kernel
theorem q169_323 : z_m169.2.2.2.2.2.lookup 323 = some (.bipush 46, 2) := by decide +kernel
theorem q169_325 : z_m169.2.2.2.2.2.lookup 325 = some (.newarray .char, 2) := by decide +kernel
theorem q169_327 : z_m169.2.2.2.2.2.lookup 327 = some (.dup, 1) := by decide +kernel
theorem q169_328 : z_m169.2.2.2.2.2.lookup 328 = some (.iconst 0, 1) := by decide +kernel
theorem q169_329 : z_m169.2.2.2.2.2.lookup 329 = some (.bipush 119, 2) := by decide +kernel
theorem q169_331 : z_m169.2.2.2.2.2.lookup 331 = some (.castore, 1) := by decide +kernel
theorem q169_332 : z_m169.2.2.2.2.2.lookup 332 = some (.dup, 1) := by decide +kernel
theorem q169_333 : z_m169.2.2.2.2.2.lookup 333 = some (.iconst 1, 1) := by decide +kernel
theorem q169_334 : z_m169.2.2.2.2.2.lookup 334 = some (.bipush 101, 2) := by decide +kernel
theorem q169_336 : z_m169.2.2.2.2.2.lookup 336 = some (.castore, 1) := by decide +kernel
theorem q169_337 : z_m169.2.2.2.2.2.lookup 337 = some (.dup, 1) := by decide +kernel
theorem q169_338 : z_m169.2.2.2.2.2.lookup 338 = some (.iconst 2, 1) := by decide +kernel
theorem q169_339 : z_m169.2.2.2.2.2.lookup 339 = some (.bipush 105, 2) := by decide +kernel
theorem q169_341 : z_m169.2.2.2.2.2.lookup 341 = some (.castore, 1) := by decide +kernel
theorem q169_342 : z_m169.2.2.2.2.2.lookup 342 = some (.dup, 1) := by decide +kernel
theorem q169_343 : z_m169.2.2.2.2.2.lookup 343 = some (.iconst 3, 1) := by decide +kernel
theorem q169_344 : z_m169.2.2.2.2.2.lookup 344 = some (.bipush 103, 2) := by decide +kernel
theorem q169_346 : z_m169.2.2.2.2.2.lookup 346 = some (.castore, 1) := by decide +kernel
theorem q169_347 : z_m169.2.2.2.2.2.lookup 347 = some (.dup, 1) := by decide +kernel
theorem q169_348 : z_m169.2.2.2.2.2.lookup 348 = some (.iconst 4, 1) := by decide +kernel
theorem q169_349 : z_m169.2.2.2.2.2.lookup 349 = some (.bipush 104, 2) := by decide +kernel
theorem q169_351 : z_m169.2.2.2.2.2.lookup 351 = some (.castore, 1) := by decide +kernel
theorem q169_352 : z_m169.2.2.2.2.2.lookup 352 = some (.dup, 1) := by decide +kernel
theorem q169_353 : z_m169.2.2.2.2.2.lookup 353 = some (.iconst 5, 1) := by decide +kernel
theorem q169_354 : z_m169.2.2.2.2.2.lookup 354 = some (.bipush 116, 2) := by decide +kernel
theorem q169_356 : z_m169.2.2.2.2.2.lookup 356 = some (.castore, 1) := by decide +kernel
theorem q169_357 : z_m169.2.2.2.2.2.lookup 357 = some (.dup, 1) := by decide +kernel
theorem q169_358 : z_m169.2.2.2.2.2.lookup 358 = some (.bipush 6, 2) := by decide +kernel
theorem q169_360 : z_m169.2.2.2.2.2.lookup 360 = some (.bipush 100, 2) := by decide +kernel
theorem q169_362 : z_m169.2.2.2.2.2.lookup 362 = some (.castore, 1) := by decide +kernel
theorem q169_363 : z_m169.2.2.2.2.2.lookup 363 = some (.dup, 1) := by decide +kernel
theorem q169_364 : z_m169.2.2.2.2.2.lookup 364 = some (.bipush 7, 2) := by decide +kernel
theorem q169_366 : z_m169.2.2.2.2.2.lookup 366 = some (.bipush 97, 2) := by decide +kernel
theorem q169_368 : z_m169.2.2.2.2.2.lookup 368 = some (.castore, 1) := by decide +kernel
theorem q169_369 : z_m169.2.2.2.2.2.lookup 369 = some (.dup, 1) := by decide +kernel
theorem q169_370 : z_m169.2.2.2.2.2.lookup 370 = some (.bipush 8, 2) := by decide +kernel
theorem q169_372 : z_m169.2.2.2.2.2.lookup 372 = some (.bipush 121, 2) := by decide +kernel
theorem q169_374 : z_m169.2.2.2.2.2.lookup 374 = some (.castore, 1) := by decide +kernel
theorem q169_375 : z_m169.2.2.2.2.2.lookup 375 = some (.dup, 1) := by decide +kernel
theorem q169_376 : z_m169.2.2.2.2.2.lookup 376 = some (.bipush 9, 2) := by decide +kernel
theorem q169_378 : z_m169.2.2.2.2.2.lookup 378 = some (.bipush 119, 2) := by decide +kernel
theorem q169_380 : z_m169.2.2.2.2.2.lookup 380 = some (.castore, 1) := by decide +kernel
theorem q169_381 : z_m169.2.2.2.2.2.lookup 381 = some (.dup, 1) := by decide +kernel
theorem q169_382 : z_m169.2.2.2.2.2.lookup 382 = some (.bipush 10, 2) := by decide +kernel
theorem q169_384 : z_m169.2.2.2.2.2.lookup 384 = some (.bipush 101, 2) := by decide +kernel
theorem q169_386 : z_m169.2.2.2.2.2.lookup 386 = some (.castore, 1) := by decide +kernel
theorem q169_387 : z_m169.2.2.2.2.2.lookup 387 = some (.dup, 1) := by decide +kernel
theorem q169_388 : z_m169.2.2.2.2.2.lookup 388 = some (.bipush 11, 2) := by decide +kernel
theorem q169_390 : z_m169.2.2.2.2.2.lookup 390 = some (.bipush 116, 2) := by decide +kernel
theorem q169_392 : z_m169.2.2.2.2.2.lookup 392 = some (.castore, 1) := by decide +kernel
theorem q169_393 : z_m169.2.2.2.2.2.lookup 393 = some (.dup, 1) := by decide +kernel
theorem q169_394 : z_m169.2.2.2.2.2.lookup 394 = some (.bipush 12, 2) := by decide +kernel
theorem q169_396 : z_m169.2.2.2.2.2.lookup 396 = some (.bipush 107, 2) := by decide +kernel
theorem q169_398 : z_m169.2.2.2.2.2.lookup 398 = some (.castore, 1) := by decide +kernel
theorem q169_399 : z_m169.2.2.2.2.2.lookup 399 = some (.dup, 1) := by decide +kernel
theorem q169_400 : z_m169.2.2.2.2.2.lookup 400 = some (.bipush 13, 2) := by decide +kernel
theorem q169_402 : z_m169.2.2.2.2.2.lookup 402 = some (.bipush 105, 2) := by decide +kernel
theorem q169_404 : z_m169.2.2.2.2.2.lookup 404 = some (.castore, 1) := by decide +kernel
theorem q169_405 : z_m169.2.2.2.2.2.lookup 405 = some (.dup, 1) := by decide +kernel
theorem q169_406 : z_m169.2.2.2.2.2.lookup 406 = some (.bipush 14, 2) := by decide +kernel
theorem q169_408 : z_m169.2.2.2.2.2.lookup 408 = some (.bipush 110, 2) := by decide +kernel
theorem q169_410 : z_m169.2.2.2.2.2.lookup 410 = some (.castore, 1) := by decide +kernel
theorem q169_411 : z_m169.2.2.2.2.2.lookup 411 = some (.dup, 1) := by decide +kernel
theorem q169_412 : z_m169.2.2.2.2.2.lookup 412 = some (.bipush 15, 2) := by decide +kernel
theorem q169_414 : z_m169.2.2.2.2.2.lookup 414 = some (.bipush 100, 2) := by decide +kernel
theorem q169_416 : z_m169.2.2.2.2.2.lookup 416 = some (.castore, 1) := by decide +kernel
theorem q169_417 : z_m169.2.2.2.2.2.lookup 417 = some (.dup, 1) := by decide +kernel
theorem q169_418 : z_m169.2.2.2.2.2.lookup 418 = some (.bipush 16, 2) := by decide +kernel
theorem q169_420 : z_m169.2.2.2.2.2.lookup 420 = some (.bipush 109, 2) := by decide +kernel
theorem q169_422 : z_m169.2.2.2.2.2.lookup 422 = some (.castore, 1) := by decide +kernel
theorem q169_423 : z_m169.2.2.2.2.2.lookup 423 = some (.dup, 1) := by decide +kernel
theorem q169_424 : z_m169.2.2.2.2.2.lookup 424 = some (.bipush 17, 2) := by decide +kernel
theorem q169_426 : z_m169.2.2.2.2.2.lookup 426 = some (.bipush 105, 2) := by decide +kernel
theorem q169_428 : z_m169.2.2.2.2.2.lookup 428 = some (.castore, 1) := by decide +kernel
theorem q169_429 : z_m169.2.2.2.2.2.lookup 429 = some (.dup, 1) := by decide +kernel
theorem q169_430 : z_m169.2.2.2.2.2.lookup 430 = some (.bipush 18, 2) := by decide +kernel
theorem q169_432 : z_m169.2.2.2.2.2.lookup 432 = some (.bipush 115, 2) := by decide +kernel
theorem q169_434 : z_m169.2.2.2.2.2.lookup 434 = some (.castore, 1) := by decide +kernel
theorem q169_435 : z_m169.2.2.2.2.2.lookup 435 = some (.dup, 1) := by decide +kernel
theorem q169_436 : z_m169.2.2.2.2.2.lookup 436 = some (.bipush 19, 2) := by decide +kernel
theorem q169_438 : z_m169.2.2.2.2.2.lookup 438 = some (.bipush 115, 2) := by decide +kernel
theorem q169_440 : z_m169.2.2.2.2.2.lookup 440 = some (.castore, 1) := by decide +kernel
theorem q169_441 : z_m169.2.2.2.2.2.lookup 441 = some (.dup, 1) := by decide +kernel
theorem q169_442 : z_m169.2.2.2.2.2.lookup 442 = some (.bipush 20, 2) := by decide +kernel
theorem q169_444 : z_m169.2.2.2.2.2.lookup 444 = some (.bipush 101, 2) := by decide +kernel
theorem q169_446 : z_m169.2.2.2.2.2.lookup 446 = some (.castore, 1) := by decide +kernel
theorem q169_447 : z_m169.2.2.2.2.2.lookup 447 = some (.dup, 1) := by decide +kernel
theorem q169_448 : z_m169.2.2.2.2.2.lookup 448 = some (.bipush 21, 2) := by decide +kernel
theorem q169_450 : z_m169.2.2.2.2.2.lookup 450 = some (.bipush 100, 2) := by decide +kernel
theorem q169_452 : z_m169.2.2.2.2.2.lookup 452 = some (.castore, 1) := by decide +kernel
theorem q169_453 : z_m169.2.2.2.2.2.lookup 453 = some (.dup, 1) := by decide +kernel
theorem q169_454 : z_m169.2.2.2.2.2.lookup 454 = some (.bipush 22, 2) := by decide +kernel
theorem q169_456 : z_m169.2.2.2.2.2.lookup 456 = some (.bipush 112, 2) := by decide +kernel
theorem q169_458 : z_m169.2.2.2.2.2.lookup 458 = some (.castore, 1) := by decide +kernel
theorem q169_459 : z_m169.2.2.2.2.2.lookup 459 = some (.dup, 1) := by decide +kernel
theorem q169_460 : z_m169.2.2.2.2.2.lookup 460 = some (.bipush 23, 2) := by decide +kernel
theorem q169_462 : z_m169.2.2.2.2.2.lookup 462 = some (.bipush 114, 2) := by decide +kernel
theorem q169_464 : z_m169.2.2.2.2.2.lookup 464 = some (.castore, 1) := by decide +kernel
theorem q169_465 : z_m169.2.2.2.2.2.lookup 465 = some (.dup, 1) := by decide +kernel
theorem q169_466 : z_m169.2.2.2.2.2.lookup 466 = some (.bipush 24, 2) := by decide +kernel
theorem q169_468 : z_m169.2.2.2.2.2.lookup 468 = some (.bipush 105, 2) := by decide +kernel
theorem q169_470 : z_m169.2.2.2.2.2.lookup 470 = some (.castore, 1) := by decide +kernel
theorem q169_471 : z_m169.2.2.2.2.2.lookup 471 = some (.dup, 1) := by decide +kernel
theorem q169_472 : z_m169.2.2.2.2.2.lookup 472 = some (.bipush 25, 2) := by decide +kernel
theorem q169_474 : z_m169.2.2.2.2.2.lookup 474 = some (.bipush 99, 2) := by decide +kernel
theorem q169_476 : z_m169.2.2.2.2.2.lookup 476 = some (.castore, 1) := by decide +kernel
theorem q169_477 : z_m169.2.2.2.2.2.lookup 477 = some (.dup, 1) := by decide +kernel
theorem q169_478 : z_m169.2.2.2.2.2.lookup 478 = some (.bipush 26, 2) := by decide +kernel
theorem q169_480 : z_m169.2.2.2.2.2.lookup 480 = some (.bipush 101, 2) := by decide +kernel
theorem q169_482 : z_m169.2.2.2.2.2.lookup 482 = some (.castore, 1) := by decide +kernel
theorem q169_483 : z_m169.2.2.2.2.2.lookup 483 = some (.dup, 1) := by decide +kernel
theorem q169_484 : z_m169.2.2.2.2.2.lookup 484 = some (.bipush 27, 2) := by decide +kernel
theorem q169_486 : z_m169.2.2.2.2.2.lookup 486 = some (.bipush 112, 2) := by decide +kernel
theorem q169_488 : z_m169.2.2.2.2.2.lookup 488 = some (.castore, 1) := by decide +kernel
theorem q169_489 : z_m169.2.2.2.2.2.lookup 489 = some (.dup, 1) := by decide +kernel
theorem q169_490 : z_m169.2.2.2.2.2.lookup 490 = some (.bipush 28, 2) := by decide +kernel
theorem q169_492 : z_m169.2.2.2.2.2.lookup 492 = some (.bipush 97, 2) := by decide +kernel
theorem q169_494 : z_m169.2.2.2.2.2.lookup 494 = some (.castore, 1) := by decide +kernel
theorem q169_495 : z_m169.2.2.2.2.2.lookup 495 = some (.dup, 1) := by decide +kernel
theorem q169_496 : z_m169.2.2.2.2.2.lookup 496 = some (.bipush 29, 2) := by decide +kernel
theorem q169_498 : z_m169.2.2.2.2.2.lookup 498 = some (.bipush 121, 2) := by decide +kernel
theorem q169_500 : z_m169.2.2.2.2.2.lookup 500 = some (.castore, 1) := by decide +kernel
theorem q169_501 : z_m169.2.2.2.2.2.lookup 501 = some (.dup, 1) := by decide +kernel
theorem q169_502 : z_m169.2.2.2.2.2.lookup 502 = some (.bipush 30, 2) := by decide +kernel
theorem q169_504 : z_m169.2.2.2.2.2.lookup 504 = some (.bipush 102, 2) := by decide +kernel
theorem q169_506 : z_m169.2.2.2.2.2.lookup 506 = some (.castore, 1) := by decide +kernel
theorem q169_507 : z_m169.2.2.2.2.2.lookup 507 = some (.dup, 1) := by decide +kernel
theorem q169_508 : z_m169.2.2.2.2.2.lookup 508 = some (.bipush 31, 2) := by decide +kernel
theorem q169_510 : z_m169.2.2.2.2.2.lookup 510 = some (.bipush 105, 2) := by decide +kernel
theorem q169_512 : z_m169.2.2.2.2.2.lookup 512 = some (.castore, 1) := by decide +kernel
theorem q169_513 : z_m169.2.2.2.2.2.lookup 513 = some (.dup, 1) := by decide +kernel
theorem q169_514 : z_m169.2.2.2.2.2.lookup 514 = some (.bipush 32, 2) := by decide +kernel
theorem q169_516 : z_m169.2.2.2.2.2.lookup 516 = some (.bipush 110, 2) := by decide +kernel
theorem q169_518 : z_m169.2.2.2.2.2.lookup 518 = some (.castore, 1) := by decide +kernel
theorem q169_519 : z_m169.2.2.2.2.2.lookup 519 = some (.dup, 1) := by decide +kernel
theorem q169_520 : z_m169.2.2.2.2.2.lookup 520 = some (.bipush 33, 2) := by decide +kernel
theorem q169_522 : z_m169.2.2.2.2.2.lookup 522 = some (.bipush 101, 2) := by decide +kernel
theorem q169_524 : z_m169.2.2.2.2.2.lookup 524 = some (.castore, 1) := by decide +kernel
theorem q169_525 : z_m169.2.2.2.2.2.lookup 525 = some (.dup, 1) := by decide +kernel
theorem q169_526 : z_m169.2.2.2.2.2.lookup 526 = some (.bipush 34, 2) := by decide +kernel
theorem q169_528 : z_m169.2.2.2.2.2.lookup 528 = some (.bipush 102, 2) := by decide +kernel
theorem q169_530 : z_m169.2.2.2.2.2.lookup 530 = some (.castore, 1) := by decide +kernel
theorem q169_531 : z_m169.2.2.2.2.2.lookup 531 = some (.dup, 1) := by decide +kernel
theorem q169_532 : z_m169.2.2.2.2.2.lookup 532 = some (.bipush 35, 2) := by decide +kernel
theorem q169_534 : z_m169.2.2.2.2.2.lookup 534 = some (.bipush 105, 2) := by decide +kernel
theorem q169_536 : z_m169.2.2.2.2.2.lookup 536 = some (.castore, 1) := by decide +kernel
theorem q169_537 : z_m169.2.2.2.2.2.lookup 537 = some (.dup, 1) := by decide +kernel
theorem q169_538 : z_m169.2.2.2.2.2.lookup 538 = some (.bipush 36, 2) := by decide +kernel
theorem q169_540 : z_m169.2.2.2.2.2.lookup 540 = some (.bipush 110, 2) := by decide +kernel
theorem q169_542 : z_m169.2.2.2.2.2.lookup 542 = some (.castore, 1) := by decide +kernel
theorem q169_543 : z_m169.2.2.2.2.2.lookup 543 = some (.dup, 1) := by decide +kernel
theorem q169_544 : z_m169.2.2.2.2.2.lookup 544 = some (.bipush 37, 2) := by decide +kernel
theorem q169_546 : z_m169.2.2.2.2.2.lookup 546 = some (.bipush 100, 2) := by decide +kernel
theorem q169_548 : z_m169.2.2.2.2.2.lookup 548 = some (.castore, 1) := by decide +kernel
theorem q169_549 : z_m169.2.2.2.2.2.lookup 549 = some (.dup, 1) := by decide +kernel
theorem q169_550 : z_m169.2.2.2.2.2.lookup 550 = some (.bipush 38, 2) := by decide +kernel
theorem q169_552 : z_m169.2.2.2.2.2.lookup 552 = some (.bipush 111, 2) := by decide +kernel
theorem q169_554 : z_m169.2.2.2.2.2.lookup 554 = some (.castore, 1) := by decide +kernel
theorem q169_555 : z_m169.2.2.2.2.2.lookup 555 = some (.dup, 1) := by decide +kernel
theorem q169_556 : z_m169.2.2.2.2.2.lookup 556 = some (.bipush 39, 2) := by decide +kernel
theorem q169_558 : z_m169.2.2.2.2.2.lookup 558 = some (.bipush 114, 2) := by decide +kernel
