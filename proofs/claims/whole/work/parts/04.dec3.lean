theorem dX7_init_0 : decode cX7_init 0 = .ok (.aload_n 0, 1) := by decide +kernel
theorem dX7_init_1 : decode cX7_init 1 = .ok (.invokespecial 1, 3) := by decide +kernel
theorem dX7_init_4 : decode cX7_init 4 = .ok (.aload_n 0, 1) := by decide +kernel
theorem dX7_init_5 : decode cX7_init 5 = .ok (.sipush 1479, 3) := by decide +kernel
theorem dX7_init_8 : decode cX7_init 8 = .ok (.newarray .int, 2) := by decide +kernel
theorem dX7_init_10 : decode cX7_init 10 = .ok (.putfield 9, 3) := by decide +kernel
theorem dX7_init_13 : decode cX7_init 13 = .ok (.aload_n 0, 1) := by decide +kernel
theorem dX7_init_14 : decode cX7_init 14 = .ok (.sipush 1479, 3) := by decide +kernel
theorem dX7_init_17 : decode cX7_init 17 = .ok (.newarray .int, 2) := by decide +kernel
theorem dX7_init_19 : decode cX7_init 19 = .ok (.putfield 13, 3) := by decide +kernel
theorem dX7_init_22 : decode cX7_init 22 = .ok (.aload_n 0, 1) := by decide +kernel
theorem dX7_init_23 : decode cX7_init 23 = .ok (.sipush 1479, 3) := by decide +kernel
theorem dX7_init_26 : decode cX7_init 26 = .ok (.newarray .int, 2) := by decide +kernel
theorem dX7_init_28 : decode cX7_init 28 = .ok (.putfield 16, 3) := by decide +kernel
theorem dX7_init_31 : decode cX7_init 31 = .ok (.aload_n 0, 1) := by decide +kernel
theorem dX7_init_32 : decode cX7_init 32 = .ok (.iconst 3, 1) := by decide +kernel
theorem dX7_init_33 : decode cX7_init 33 = .ok (.newarray .int, 2) := by decide +kernel
theorem dX7_init_35 : decode cX7_init 35 = .ok (.putfield 19, 3) := by decide +kernel
theorem dX7_init_38 : decode cX7_init 38 = .ok (.aload_n 0, 1) := by decide +kernel
theorem dX7_init_39 : decode cX7_init 39 = .ok (.bipush 107, 2) := by decide +kernel
theorem dX7_init_41 : decode cX7_init 41 = .ok (.newarray .int, 2) := by decide +kernel
theorem dX7_init_43 : decode cX7_init 43 = .ok (.putfield 22, 3) := by decide +kernel
theorem dX7_init_46 : decode cX7_init 46 = .ok (.aload_n 0, 1) := by decide +kernel
theorem dX7_init_47 : decode cX7_init 47 = .ok (.bipush 8, 2) := by decide +kernel
theorem dX7_init_49 : decode cX7_init 49 = .ok (.newarray .int, 2) := by decide +kernel
theorem dX7_init_51 : decode cX7_init 51 = .ok (.putfield 25, 3) := by decide +kernel
theorem dX7_init_54 : decode cX7_init 54 = .ok (.aload_n 0, 1) := by decide +kernel
theorem dX7_init_55 : decode cX7_init 55 = .ok (.bipush 96, 2) := by decide +kernel
theorem dX7_init_57 : decode cX7_init 57 = .ok (.newarray .int, 2) := by decide +kernel
theorem dX7_init_59 : decode cX7_init 59 = .ok (.putfield 28, 3) := by decide +kernel
theorem dX7_init_62 : decode cX7_init 62 = .ok (.aload_n 0, 1) := by decide +kernel
theorem dX7_init_63 : decode cX7_init 63 = .ok (.bipush 11, 2) := by decide +kernel
theorem dX7_init_65 : decode cX7_init 65 = .ok (.newarray .char, 2) := by decide +kernel
theorem dX7_init_67 : decode cX7_init 67 = .ok (.dup, 1) := by decide +kernel
theorem dX7_init_68 : decode cX7_init 68 = .ok (.iconst 0, 1) := by decide +kernel
theorem dX7_init_69 : decode cX7_init 69 = .ok (.bipush 104, 2) := by decide +kernel
theorem dX7_init_71 : decode cX7_init 71 = .ok (.castore, 1) := by decide +kernel
theorem dX7_init_72 : decode cX7_init 72 = .ok (.dup, 1) := by decide +kernel
theorem dX7_init_73 : decode cX7_init 73 = .ok (.iconst 1, 1) := by decide +kernel
theorem dX7_init_74 : decode cX7_init 74 = .ok (.bipush 105, 2) := by decide +kernel
theorem dX7_init_76 : decode cX7_init 76 = .ok (.castore, 1) := by decide +kernel
theorem dX7_init_77 : decode cX7_init 77 = .ok (.dup, 1) := by decide +kernel
theorem dX7_init_78 : decode cX7_init 78 = .ok (.iconst 2, 1) := by decide +kernel
theorem dX7_init_79 : decode cX7_init 79 = .ok (.bipush 103, 2) := by decide +kernel
theorem dX7_init_81 : decode cX7_init 81 = .ok (.castore, 1) := by decide +kernel
theorem dX7_init_82 : decode cX7_init 82 = .ok (.dup, 1) := by decide +kernel
theorem dX7_init_83 : decode cX7_init 83 = .ok (.iconst 3, 1) := by decide +kernel
theorem dX7_init_84 : decode cX7_init 84 = .ok (.bipush 104, 2) := by decide +kernel
theorem dX7_init_86 : decode cX7_init 86 = .ok (.castore, 1) := by decide +kernel
theorem dX7_init_87 : decode cX7_init 87 = .ok (.dup, 1) := by decide +kernel
theorem dX7_init_88 : decode cX7_init 88 = .ok (.iconst 4, 1) := by decide +kernel
theorem dX7_init_89 : decode cX7_init 89 = .ok (.bipush 102, 2) := by decide +kernel
theorem dX7_init_91 : decode cX7_init 91 = .ok (.castore, 1) := by decide +kernel
theorem dX7_init_92 : decode cX7_init 92 = .ok (.dup, 1) := by decide +kernel
theorem dX7_init_93 : decode cX7_init 93 = .ok (.iconst 5, 1) := by decide +kernel
theorem dX7_init_94 : decode cX7_init 94 = .ok (.bipush 101, 2) := by decide +kernel
theorem dX7_init_96 : decode cX7_init 96 = .ok (.castore, 1) := by decide +kernel
theorem dX7_init_97 : decode cX7_init 97 = .ok (.dup, 1) := by decide +kernel
theorem dX7_init_98 : decode cX7_init 98 = .ok (.bipush 6, 2) := by decide +kernel
theorem dX7_init_100 : decode cX7_init 100 = .ok (.bipush 101, 2) := by decide +kernel
theorem dX7_init_102 : decode cX7_init 102 = .ok (.castore, 1) := by decide +kernel
theorem dX7_init_103 : decode cX7_init 103 = .ok (.dup, 1) := by decide +kernel
theorem dX7_init_104 : decode cX7_init 104 = .ok (.bipush 7, 2) := by decide +kernel
theorem dX7_init_106 : decode cX7_init 106 = .ok (.bipush 102, 2) := by decide +kernel
theorem dX7_init_108 : decode cX7_init 108 = .ok (.castore, 1) := by decide +kernel
theorem dX7_init_109 : decode cX7_init 109 = .ok (.dup, 1) := by decide +kernel
theorem dX7_init_110 : decode cX7_init 110 = .ok (.bipush 8, 2) := by decide +kernel
theorem dX7_init_112 : decode cX7_init 112 = .ok (.bipush 105, 2) := by decide +kernel
theorem dX7_init_114 : decode cX7_init 114 = .ok (.castore, 1) := by decide +kernel
theorem dX7_init_115 : decode cX7_init 115 = .ok (.dup, 1) := by decide +kernel
theorem dX7_init_116 : decode cX7_init 116 = .ok (.bipush 9, 2) := by decide +kernel
theorem dX7_init_118 : decode cX7_init 118 = .ok (.bipush 110, 2) := by decide +kernel
theorem dX7_init_120 : decode cX7_init 120 = .ok (.castore, 1) := by decide +kernel
theorem dX7_init_121 : decode cX7_init 121 = .ok (.dup, 1) := by decide +kernel
theorem dX7_init_122 : decode cX7_init 122 = .ok (.bipush 10, 2) := by decide +kernel
theorem dX7_init_124 : decode cX7_init 124 = .ok (.bipush 101, 2) := by decide +kernel
theorem dX7_init_126 : decode cX7_init 126 = .ok (.castore, 1) := by decide +kernel
theorem dX7_init_127 : decode cX7_init 127 = .ok (.putfield 31, 3) := by decide +kernel
theorem dX7_init_130 : decode cX7_init 130 = .ok (.aload_n 0, 1) := by decide +kernel
theorem dX7_init_131 : decode cX7_init 131 = .ok (.iconst 4, 1) := by decide +kernel
theorem dX7_init_132 : decode cX7_init 132 = .ok (.newarray .int, 2) := by decide +kernel
theorem dX7_init_134 : decode cX7_init 134 = .ok (.dup, 1) := by decide +kernel
theorem dX7_init_135 : decode cX7_init 135 = .ok (.iconst 0, 1) := by decide +kernel
theorem dX7_init_136 : decode cX7_init 136 = .ok (.iconst 0, 1) := by decide +kernel
theorem dX7_init_137 : decode cX7_init 137 = .ok (.iastore, 1) := by decide +kernel
theorem dX7_init_138 : decode cX7_init 138 = .ok (.dup, 1) := by decide +kernel
theorem dX7_init_139 : decode cX7_init 139 = .ok (.iconst 1, 1) := by decide +kernel
theorem dX7_init_140 : decode cX7_init 140 = .ok (.iconst 4, 1) := by decide +kernel
theorem dX7_init_141 : decode cX7_init 141 = .ok (.iastore, 1) := by decide +kernel
theorem dX7_init_142 : decode cX7_init 142 = .ok (.dup, 1) := by decide +kernel
theorem dX7_init_143 : decode cX7_init 143 = .ok (.iconst 2, 1) := by decide +kernel
theorem dX7_init_144 : decode cX7_init 144 = .ok (.bipush 7, 2) := by decide +kernel
theorem dX7_init_146 : decode cX7_init 146 = .ok (.iastore, 1) := by decide +kernel
theorem dX7_init_147 : decode cX7_init 147 = .ok (.dup, 1) := by decide +kernel
theorem dX7_init_148 : decode cX7_init 148 = .ok (.iconst 3, 1) := by decide +kernel
theorem dX7_init_149 : decode cX7_init 149 = .ok (.bipush 11, 2) := by decide +kernel
theorem dX7_init_151 : decode cX7_init 151 = .ok (.iastore, 1) := by decide +kernel
theorem dX7_init_152 : decode cX7_init 152 = .ok (.putfield 35, 3) := by decide +kernel
theorem dX7_init_155 : decode cX7_init 155 = .ok (.aload_n 0, 1) := by decide +kernel
theorem dX7_init_156 : decode cX7_init 156 = .ok (.bipush 96, 2) := by decide +kernel
theorem dX7_init_158 : decode cX7_init 158 = .ok (.newarray .int, 2) := by decide +kernel
theorem dX7_init_160 : decode cX7_init 160 = .ok (.putfield 38, 3) := by decide +kernel
theorem dX7_init_163 : decode cX7_init 163 = .ok (.aload_n 0, 1) := by decide +kernel
theorem dX7_init_164 : decode cX7_init 164 = .ok (.bipush 96, 2) := by decide +kernel
theorem dX7_init_166 : decode cX7_init 166 = .ok (.newarray .int, 2) := by decide +kernel
theorem dX7_init_168 : decode cX7_init 168 = .ok (.putfield 41, 3) := by decide +kernel
theorem dX7_init_171 : decode cX7_init 171 = .ok (.aload_n 0, 1) := by decide +kernel
theorem dX7_init_172 : decode cX7_init 172 = .ok (.bipush 10, 2) := by decide +kernel
theorem dX7_init_174 : decode cX7_init 174 = .ok (.newarray .boolean, 2) := by decide +kernel
theorem dX7_init_176 : decode cX7_init 176 = .ok (.putfield 44, 3) := by decide +kernel
theorem dX7_init_179 : decode cX7_init 179 = .ok (.aload_n 0, 1) := by decide +kernel
theorem dX7_init_180 : decode cX7_init 180 = .ok (.bipush 96, 2) := by decide +kernel
theorem dX7_init_182 : decode cX7_init 182 = .ok (.newarray .int, 2) := by decide +kernel
theorem dX7_init_184 : decode cX7_init 184 = .ok (.putfield 48, 3) := by decide +kernel
theorem dX7_init_187 : decode cX7_init 187 = .ok (.aload_n 0, 1) := by decide +kernel
theorem dX7_init_188 : decode cX7_init 188 = .ok (.iconst 4, 1) := by decide +kernel
theorem dX7_init_189 : decode cX7_init 189 = .ok (.newarray .int, 2) := by decide +kernel
theorem dX7_init_191 : decode cX7_init 191 = .ok (.putfield 51, 3) := by decide +kernel
theorem dX7_init_194 : decode cX7_init 194 = .ok (.aload_n 0, 1) := by decide +kernel
theorem dX7_init_195 : decode cX7_init 195 = .ok (.iconst 4, 1) := by decide +kernel
theorem dX7_init_196 : decode cX7_init 196 = .ok (.newarray .int, 2) := by decide +kernel
theorem dX7_init_198 : decode cX7_init 198 = .ok (.dup, 1) := by decide +kernel
theorem dX7_init_199 : decode cX7_init 199 = .ok (.iconst 0, 1) := by decide +kernel
theorem dX7_init_200 : decode cX7_init 200 = .ok (.iconst (-1), 1) := by decide +kernel
theorem dX7_init_201 : decode cX7_init 201 = .ok (.iastore, 1) := by decide +kernel
theorem dX7_init_202 : decode cX7_init 202 = .ok (.dup, 1) := by decide +kernel
theorem dX7_init_203 : decode cX7_init 203 = .ok (.iconst 1, 1) := by decide +kernel
theorem dX7_init_204 : decode cX7_init 204 = .ok (.iconst (-1), 1) := by decide +kernel
theorem dX7_init_205 : decode cX7_init 205 = .ok (.iastore, 1) := by decide +kernel
theorem dX7_init_206 : decode cX7_init 206 = .ok (.dup, 1) := by decide +kernel
theorem dX7_init_207 : decode cX7_init 207 = .ok (.iconst 2, 1) := by decide +kernel
theorem dX7_init_208 : decode cX7_init 208 = .ok (.iconst (-1), 1) := by decide +kernel
theorem dX7_init_209 : decode cX7_init 209 = .ok (.iastore, 1) := by decide +kernel
theorem dX7_init_210 : decode cX7_init 210 = .ok (.dup, 1) := by decide +kernel
theorem dX7_init_211 : decode cX7_init 211 = .ok (.iconst 3, 1) := by decide +kernel
theorem dX7_init_212 : decode cX7_init 212 = .ok (.iconst (-1), 1) := by decide +kernel
theorem dX7_init_213 : decode cX7_init 213 = .ok (.iastore, 1) := by decide +kernel
theorem dX7_init_214 : decode cX7_init 214 = .ok (.putfield 54, 3) := by decide +kernel
theorem dX7_init_217 : decode cX7_init 217 = .ok (.aload_n 0, 1) := by decide +kernel
theorem dX7_init_218 : decode cX7_init 218 = .ok (.iconst 4, 1) := by decide +kernel
theorem dX7_init_219 : decode cX7_init 219 = .ok (.newarray .int, 2) := by decide +kernel
theorem dX7_init_221 : decode cX7_init 221 = .ok (.putfield 57, 3) := by decide +kernel
theorem dX7_init_224 : decode cX7_init 224 = .ok (.aload_n 0, 1) := by decide +kernel
theorem dX7_init_225 : decode cX7_init 225 = .ok (.bipush 96, 2) := by decide +kernel
theorem dX7_init_227 : decode cX7_init 227 = .ok (.newarray .int, 2) := by decide +kernel
theorem dX7_init_229 : decode cX7_init 229 = .ok (.putfield 60, 3) := by decide +kernel
theorem dX7_init_232 : decode cX7_init 232 = .ok (.aload_n 0, 1) := by decide +kernel
theorem dX7_init_233 : decode cX7_init 233 = .ok (.iconst 5, 1) := by decide +kernel
theorem dX7_init_234 : decode cX7_init 234 = .ok (.newarray .int, 2) := by decide +kernel
theorem dX7_init_236 : decode cX7_init 236 = .ok (.putfield 63, 3) := by decide +kernel
theorem dX7_init_239 : decode cX7_init 239 = .ok (.aload_n 0, 1) := by decide +kernel
theorem dX7_init_240 : decode cX7_init 240 = .ok (.iconst 5, 1) := by decide +kernel
theorem dX7_init_241 : decode cX7_init 241 = .ok (.newarray .int, 2) := by decide +kernel
theorem dX7_init_243 : decode cX7_init 243 = .ok (.putfield 66, 3) := by decide +kernel
theorem dX7_init_246 : decode cX7_init 246 = .ok (.aload_n 0, 1) := by decide +kernel
theorem dX7_init_247 : decode cX7_init 247 = .ok (.iconst 5, 1) := by decide +kernel
theorem dX7_init_248 : decode cX7_init 248 = .ok (.newarray .int, 2) := by decide +kernel
theorem dX7_init_250 : decode cX7_init 250 = .ok (.putfield 69, 3) := by decide +kernel
theorem dX7_init_253 : decode cX7_init 253 = .ok (.aload_n 0, 1) := by decide +kernel
theorem dX7_init_254 : decode cX7_init 254 = .ok (.bipush 120, 2) := by decide +kernel
theorem dX7_init_256 : decode cX7_init 256 = .ok (.newarray .int, 2) := by decide +kernel
theorem dX7_init_258 : decode cX7_init 258 = .ok (.putfield 72, 3) := by decide +kernel
theorem dX7_init_261 : decode cX7_init 261 = .ok (.aload_n 0, 1) := by decide +kernel
theorem dX7_init_262 : decode cX7_init 262 = .ok (.bipush 24, 2) := by decide +kernel
theorem dX7_init_264 : decode cX7_init 264 = .ok (.newarray .int, 2) := by decide +kernel
theorem dX7_init_266 : decode cX7_init 266 = .ok (.putfield 75, 3) := by decide +kernel
theorem dX7_init_269 : decode cX7_init 269 = .ok (.aload_n 0, 1) := by decide +kernel
theorem dX7_init_270 : decode cX7_init 270 = .ok (.bipush 60, 2) := by decide +kernel
theorem dX7_init_272 : decode cX7_init 272 = .ok (.newarray .int, 2) := by decide +kernel
theorem dX7_init_274 : decode cX7_init 274 = .ok (.putfield 78, 3) := by decide +kernel
theorem dX7_init_277 : decode cX7_init 277 = .ok (.aload_n 0, 1) := by decide +kernel
theorem dX7_init_278 : decode cX7_init 278 = .ok (.getfield 9, 3) := by decide +kernel
theorem dX7_init_281 : decode cX7_init 281 = .ok (.iconst 0, 1) := by decide +kernel
theorem dX7_init_282 : decode cX7_init 282 = .ok (.iconst 1, 1) := by decide +kernel
theorem dX7_init_283 : decode cX7_init 283 = .ok (.iastore, 1) := by decide +kernel
theorem dX7_init_284 : decode cX7_init 284 = .ok (.return_, 1) := by decide +kernel
theorem dX7_in_0 : decode cX7_in 0 = .ok (.iload_n 0, 1) := by decide +kernel
theorem dX7_in_1 : decode cX7_in 1 = .ok (.iload_n 1, 1) := by decide +kernel
theorem dX7_in_2 : decode cX7_in 2 = .ok (.if_icmp .lt 12, 3) := by decide +kernel
theorem dX7_in_5 : decode cX7_in 5 = .ok (.iload_n 0, 1) := by decide +kernel
theorem dX7_in_6 : decode cX7_in 6 = .ok (.iload_n 2, 1) := by decide +kernel
theorem dX7_in_7 : decode cX7_in 7 = .ok (.if_icmp .gt 7, 3) := by decide +kernel
theorem dX7_in_10 : decode cX7_in 10 = .ok (.iconst 1, 1) := by decide +kernel
theorem dX7_in_11 : decode cX7_in 11 = .ok (.goto 4, 3) := by decide +kernel
theorem dX7_in_14 : decode cX7_in 14 = .ok (.iconst 0, 1) := by decide +kernel
theorem dX7_in_15 : decode cX7_in 15 = .ok (.ireturn, 1) := by decide +kernel
theorem dX7_within_0 : decode cX7_within 0 = .ok (.iload_n 0, 1) := by decide +kernel
theorem dX7_within_1 : decode cX7_within 1 = .ok (.iload_n 1, 1) := by decide +kernel
theorem dX7_within_2 : decode cX7_within 2 = .ok (.if_icmp .ge 7, 3) := by decide +kernel
theorem dX7_within_5 : decode cX7_within 5 = .ok (.iload_n 1, 1) := by decide +kernel
theorem dX7_within_6 : decode cX7_within 6 = .ok (.goto 13, 3) := by decide +kernel
theorem dX7_within_9 : decode cX7_within 9 = .ok (.iload_n 0, 1) := by decide +kernel
theorem dX7_within_10 : decode cX7_within 10 = .ok (.iload_n 2, 1) := by decide +kernel
theorem dX7_within_11 : decode cX7_within 11 = .ok (.if_icmp .le 7, 3) := by decide +kernel
theorem dX7_within_14 : decode cX7_within 14 = .ok (.iload_n 2, 1) := by decide +kernel
theorem dX7_within_15 : decode cX7_within 15 = .ok (.goto 4, 3) := by decide +kernel
theorem dX7_within_18 : decode cX7_within 18 = .ok (.iload_n 0, 1) := by decide +kernel
theorem dX7_within_19 : decode cX7_within 19 = .ok (.ireturn, 1) := by decide +kernel
theorem dX7_copyAll_0 : decode cX7_copyAll 0 = .ok (.iconst 0, 1) := by decide +kernel
theorem dX7_copyAll_1 : decode cX7_copyAll 1 = .ok (.istore_n 2, 1) := by decide +kernel
theorem dX7_copyAll_2 : decode cX7_copyAll 2 = .ok (.iload_n 2, 1) := by decide +kernel
theorem dX7_copyAll_3 : decode cX7_copyAll 3 = .ok (.sipush 1479, 3) := by decide +kernel
theorem dX7_copyAll_6 : decode cX7_copyAll 6 = .ok (.if_icmp .ge 15, 3) := by decide +kernel
theorem dX7_copyAll_9 : decode cX7_copyAll 9 = .ok (.aload_n 1, 1) := by decide +kernel
theorem dX7_copyAll_10 : decode cX7_copyAll 10 = .ok (.iload_n 2, 1) := by decide +kernel
theorem dX7_copyAll_11 : decode cX7_copyAll 11 = .ok (.aload_n 0, 1) := by decide +kernel
theorem dX7_copyAll_12 : decode cX7_copyAll 12 = .ok (.iload_n 2, 1) := by decide +kernel
theorem dX7_copyAll_13 : decode cX7_copyAll 13 = .ok (.iaload, 1) := by decide +kernel
theorem dX7_copyAll_14 : decode cX7_copyAll 14 = .ok (.iastore, 1) := by decide +kernel
theorem dX7_copyAll_15 : decode cX7_copyAll 15 = .ok (.iinc 2 1, 3) := by decide +kernel
theorem dX7_copyAll_18 : decode cX7_copyAll 18 = .ok (.goto (-16), 3) := by decide +kernel
theorem dX7_copyAll_21 : decode cX7_copyAll 21 = .ok (.return_, 1) := by decide +kernel
theorem dX7_told0_0 : decode cX7_told0 0 = .ok (.iload_n 0, 1) := by decide +kernel
theorem dX7_told0_1 : decode cX7_told0 1 = .ok (.ifCond .ge 8, 3) := by decide +kernel
theorem dX7_told0_4 : decode cX7_told0 4 = .ok (.ldc 81, 2) := by decide +kernel
theorem dX7_told0_6 : decode cX7_told0 6 = .ok (.goto 4, 3) := by decide +kernel
theorem dX7_told0_9 : decode cX7_told0 9 = .ok (.iload_n 0, 1) := by decide +kernel
theorem dX7_told0_10 : decode cX7_told0 10 = .ok (.ireturn, 1) := by decide +kernel
theorem dX7_isCellar_0 : decode cX7_isCellar 0 = .ok (.iload_n 1, 1) := by decide +kernel
theorem dX7_isCellar_1 : decode cX7_isCellar 1 = .ok (.iconst 0, 1) := by decide +kernel
theorem dX7_isCellar_2 : decode cX7_isCellar 2 = .ok (.aload_n 0, 1) := by decide +kernel
theorem dX7_isCellar_3 : decode cX7_isCellar 3 = .ok (.getfield 9, 3) := by decide +kernel
theorem dX7_isCellar_6 : decode cX7_isCellar 6 = .ok (.iconst 1, 1) := by decide +kernel
theorem dX7_isCellar_7 : decode cX7_isCellar 7 = .ok (.iaload, 1) := by decide +kernel
theorem dX7_isCellar_8 : decode cX7_isCellar 8 = .ok (.iconst 1, 1) := by decide +kernel
theorem dX7_isCellar_9 : decode cX7_isCellar 9 = .ok (.isub, 1) := by decide +kernel
theorem dX7_isCellar_10 : decode cX7_isCellar 10 = .ok (.invokestatic 82, 3) := by decide +kernel
theorem dX7_isCellar_13 : decode cX7_isCellar 13 = .ok (.ireturn, 1) := by decide +kernel
theorem dX7_isPipe_0 : decode cX7_isPipe 0 = .ok (.iload_n 1, 1) := by decide +kernel
theorem dX7_isPipe_1 : decode cX7_isPipe 1 = .ok (.iconst 0, 1) := by decide +kernel
theorem dX7_isPipe_2 : decode cX7_isPipe 2 = .ok (.aload_n 0, 1) := by decide +kernel
theorem dX7_isPipe_3 : decode cX7_isPipe 3 = .ok (.getfield 9, 3) := by decide +kernel
theorem dX7_isPipe_6 : decode cX7_isPipe 6 = .ok (.iconst 2, 1) := by decide +kernel
theorem dX7_isPipe_7 : decode cX7_isPipe 7 = .ok (.iaload, 1) := by decide +kernel
theorem dX7_isPipe_8 : decode cX7_isPipe 8 = .ok (.iconst 1, 1) := by decide +kernel
theorem dX7_isPipe_9 : decode cX7_isPipe 9 = .ok (.isub, 1) := by decide +kernel
theorem dX7_isPipe_10 : decode cX7_isPipe 10 = .ok (.invokestatic 82, 3) := by decide +kernel
theorem dX7_isPipe_13 : decode cX7_isPipe 13 = .ok (.ireturn, 1) := by decide +kernel
theorem dX7_of_0 : decode cX7_of 0 = .ok (.aload_n 0, 1) := by decide +kernel
theorem dX7_of_1 : decode cX7_of 1 = .ok (.getfield 9, 3) := by decide +kernel
theorem dX7_of_4 : decode cX7_of 4 = .ok (.bipush 7, 2) := by decide +kernel
theorem dX7_of_6 : decode cX7_of 6 = .ok (.bipush 6, 2) := by decide +kernel
theorem dX7_of_8 : decode cX7_of 8 = .ok (.iload_n 1, 1) := by decide +kernel
theorem dX7_of_9 : decode cX7_of 9 = .ok (.imul, 1) := by decide +kernel
theorem dX7_of_10 : decode cX7_of 10 = .ok (.iadd, 1) := by decide +kernel
theorem dX7_of_11 : decode cX7_of 11 = .ok (.iload_n 2, 1) := by decide +kernel
theorem dX7_of_12 : decode cX7_of 12 = .ok (.iadd, 1) := by decide +kernel
theorem dX7_of_13 : decode cX7_of 13 = .ok (.iaload, 1) := by decide +kernel
theorem dX7_of_14 : decode cX7_of 14 = .ok (.ireturn, 1) := by decide +kernel
theorem dX7_at_0 : decode cX7_at 0 = .ok (.aload_n 0, 1) := by decide +kernel
theorem dX7_at_1 : decode cX7_at 1 = .ok (.getfield 9, 3) := by decide +kernel
theorem dX7_at_4 : decode cX7_at 4 = .ok (.bipush 55, 2) := by decide +kernel
theorem dX7_at_6 : decode cX7_at 6 = .ok (.iconst 4, 1) := by decide +kernel
theorem dX7_at_7 : decode cX7_at 7 = .ok (.iload_n 1, 1) := by decide +kernel
theorem dX7_at_8 : decode cX7_at 8 = .ok (.imul, 1) := by decide +kernel
theorem dX7_at_9 : decode cX7_at 9 = .ok (.iadd, 1) := by decide +kernel
theorem dX7_at_10 : decode cX7_at 10 = .ok (.iload_n 2, 1) := by decide +kernel
theorem dX7_at_11 : decode cX7_at 11 = .ok (.iadd, 1) := by decide +kernel
theorem dX7_at_12 : decode cX7_at 12 = .ok (.iaload, 1) := by decide +kernel
theorem dX7_at_13 : decode cX7_at 13 = .ok (.ireturn, 1) := by decide +kernel
theorem dX7_becomes_0 : decode cX7_becomes 0 = .ok (.aload_n 0, 1) := by decide +kernel
theorem dX7_becomes_1 : decode cX7_becomes 1 = .ok (.getfield 9, 3) := by decide +kernel
theorem dX7_becomes_4 : decode cX7_becomes 4 = .ok (.iload_n 1, 1) := by decide +kernel
theorem dX7_becomes_5 : decode cX7_becomes 5 = .ok (.iaload, 1) := by decide +kernel
theorem dX7_becomes_6 : decode cX7_becomes 6 = .ok (.istore_n 3, 1) := by decide +kernel
theorem dX7_becomes_7 : decode cX7_becomes 7 = .ok (.aload_n 0, 1) := by decide +kernel
theorem dX7_becomes_8 : decode cX7_becomes 8 = .ok (.getfield 9, 3) := by decide +kernel
theorem dX7_becomes_11 : decode cX7_becomes 11 = .ok (.iload_n 1, 1) := by decide +kernel
theorem dX7_becomes_12 : decode cX7_becomes 12 = .ok (.iload_n 2, 1) := by decide +kernel
theorem dX7_becomes_13 : decode cX7_becomes 13 = .ok (.iastore, 1) := by decide +kernel
theorem dX7_becomes_14 : decode cX7_becomes 14 = .ok (.iload_n 3, 1) := by decide +kernel
theorem dX7_becomes_15 : decode cX7_becomes 15 = .ok (.ireturn, 1) := by decide +kernel
theorem dX7_comes_0 : decode cX7_comes 0 = .ok (.aload_n 0, 1) := by decide +kernel
theorem dX7_comes_1 : decode cX7_comes 1 = .ok (.getfield 9, 3) := by decide +kernel
theorem dX7_comes_4 : decode cX7_comes 4 = .ok (.iconst 1, 1) := by decide +kernel
theorem dX7_comes_5 : decode cX7_comes 5 = .ok (.iaload, 1) := by decide +kernel
theorem dX7_comes_6 : decode cX7_comes 6 = .ok (.istore 4, 2) := by decide +kernel
theorem dX7_comes_8 : decode cX7_comes 8 = .ok (.bipush 7, 2) := by decide +kernel
theorem dX7_comes_10 : decode cX7_comes 10 = .ok (.bipush 6, 2) := by decide +kernel
theorem dX7_comes_12 : decode cX7_comes 12 = .ok (.iload 4, 2) := by decide +kernel
theorem dX7_comes_14 : decode cX7_comes 14 = .ok (.imul, 1) := by decide +kernel
theorem dX7_comes_15 : decode cX7_comes 15 = .ok (.iadd, 1) := by decide +kernel
theorem dX7_comes_16 : decode cX7_comes 16 = .ok (.istore 5, 2) := by decide +kernel
theorem dX7_comes_18 : decode cX7_comes 18 = .ok (.iconst 0, 1) := by decide +kernel
theorem dX7_comes_19 : decode cX7_comes 19 = .ok (.istore 6, 2) := by decide +kernel
theorem dX7_comes_21 : decode cX7_comes 21 = .ok (.iload 6, 2) := by decide +kernel
theorem dX7_comes_23 : decode cX7_comes 23 = .ok (.bipush 6, 2) := by decide +kernel
theorem dX7_comes_25 : decode cX7_comes 25 = .ok (.if_icmp .ge 20, 3) := by decide +kernel
theorem dX7_comes_28 : decode cX7_comes 28 = .ok (.aload_n 0, 1) := by decide +kernel
theorem dX7_comes_29 : decode cX7_comes 29 = .ok (.getfield 9, 3) := by decide +kernel
theorem dX7_comes_32 : decode cX7_comes 32 = .ok (.iload 5, 2) := by decide +kernel
theorem dX7_comes_34 : decode cX7_comes 34 = .ok (.iload 6, 2) := by decide +kernel
theorem dX7_comes_36 : decode cX7_comes 36 = .ok (.iadd, 1) := by decide +kernel
theorem dX7_comes_37 : decode cX7_comes 37 = .ok (.iconst 0, 1) := by decide +kernel
theorem dX7_comes_38 : decode cX7_comes 38 = .ok (.iastore, 1) := by decide +kernel
theorem dX7_comes_39 : decode cX7_comes 39 = .ok (.iinc 6 1, 3) := by decide +kernel
theorem dX7_comes_42 : decode cX7_comes 42 = .ok (.goto (-21), 3) := by decide +kernel
theorem dX7_comes_45 : decode cX7_comes 45 = .ok (.aload_n 0, 1) := by decide +kernel
theorem dX7_comes_46 : decode cX7_comes 46 = .ok (.getfield 9, 3) := by decide +kernel
theorem dX7_comes_49 : decode cX7_comes 49 = .ok (.iload 5, 2) := by decide +kernel
theorem dX7_comes_51 : decode cX7_comes 51 = .ok (.iload_n 1, 1) := by decide +kernel
theorem dX7_comes_52 : decode cX7_comes 52 = .ok (.iastore, 1) := by decide +kernel
theorem dX7_comes_53 : decode cX7_comes 53 = .ok (.aload_n 0, 1) := by decide +kernel
theorem dX7_comes_54 : decode cX7_comes 54 = .ok (.getfield 9, 3) := by decide +kernel
theorem dX7_comes_57 : decode cX7_comes 57 = .ok (.iload 5, 2) := by decide +kernel
theorem dX7_comes_59 : decode cX7_comes 59 = .ok (.iconst 1, 1) := by decide +kernel
theorem dX7_comes_60 : decode cX7_comes 60 = .ok (.iadd, 1) := by decide +kernel
theorem dX7_comes_61 : decode cX7_comes 61 = .ok (.iload_n 2, 1) := by decide +kernel
theorem dX7_comes_62 : decode cX7_comes 62 = .ok (.iastore, 1) := by decide +kernel
theorem dX7_comes_63 : decode cX7_comes 63 = .ok (.aload_n 0, 1) := by decide +kernel
theorem dX7_comes_64 : decode cX7_comes 64 = .ok (.getfield 9, 3) := by decide +kernel
theorem dX7_comes_67 : decode cX7_comes 67 = .ok (.iload 5, 2) := by decide +kernel
theorem dX7_comes_69 : decode cX7_comes 69 = .ok (.iconst 2, 1) := by decide +kernel
theorem dX7_comes_70 : decode cX7_comes 70 = .ok (.iadd, 1) := by decide +kernel
theorem dX7_comes_71 : decode cX7_comes 71 = .ok (.iload_n 3, 1) := by decide +kernel
theorem dX7_comes_72 : decode cX7_comes 72 = .ok (.iastore, 1) := by decide +kernel
theorem dX7_comes_73 : decode cX7_comes 73 = .ok (.aload_n 0, 1) := by decide +kernel
theorem dX7_comes_74 : decode cX7_comes 74 = .ok (.getfield 9, 3) := by decide +kernel
theorem dX7_comes_77 : decode cX7_comes 77 = .ok (.iconst 1, 1) := by decide +kernel
theorem dX7_comes_78 : decode cX7_comes 78 = .ok (.dup2, 1) := by decide +kernel
theorem dX7_comes_79 : decode cX7_comes 79 = .ok (.iaload, 1) := by decide +kernel
theorem dX7_comes_80 : decode cX7_comes 80 = .ok (.iconst 1, 1) := by decide +kernel
theorem dX7_comes_81 : decode cX7_comes 81 = .ok (.iadd, 1) := by decide +kernel
theorem dX7_comes_82 : decode cX7_comes 82 = .ok (.iastore, 1) := by decide +kernel
theorem dX7_comes_83 : decode cX7_comes 83 = .ok (.iload 4, 2) := by decide +kernel
theorem dX7_comes_85 : decode cX7_comes 85 = .ok (.ireturn, 1) := by decide +kernel
theorem dX7_cellar_0 : decode cX7_cellar 0 = .ok (.iload_n 1, 1) := by decide +kernel
theorem dX7_cellar_1 : decode cX7_cellar 1 = .ok (.iconst 0, 1) := by decide +kernel
theorem dX7_cellar_2 : decode cX7_cellar 2 = .ok (.iconst 5, 1) := by decide +kernel
theorem dX7_cellar_3 : decode cX7_cellar 3 = .ok (.invokestatic 82, 3) := by decide +kernel
theorem dX7_cellar_6 : decode cX7_cellar 6 = .ok (.ifCond .eq 23, 3) := by decide +kernel
theorem dX7_cellar_9 : decode cX7_cellar 9 = .ok (.iload_n 2, 1) := by decide +kernel
theorem dX7_cellar_10 : decode cX7_cellar 10 = .ok (.iconst 0, 1) := by decide +kernel
theorem dX7_cellar_11 : decode cX7_cellar 11 = .ok (.bipush 99, 2) := by decide +kernel
theorem dX7_cellar_13 : decode cX7_cellar 13 = .ok (.invokestatic 82, 3) := by decide +kernel
theorem dX7_cellar_16 : decode cX7_cellar 16 = .ok (.ifCond .eq 13, 3) := by decide +kernel
theorem dX7_cellar_19 : decode cX7_cellar 19 = .ok (.iload_n 3, 1) := by decide +kernel
theorem dX7_cellar_20 : decode cX7_cellar 20 = .ok (.iconst 1, 1) := by decide +kernel
theorem dX7_cellar_21 : decode cX7_cellar 21 = .ok (.bipush 99, 2) := by decide +kernel
theorem dX7_cellar_23 : decode cX7_cellar 23 = .ok (.invokestatic 82, 3) := by decide +kernel
theorem dX7_cellar_26 : decode cX7_cellar 26 = .ok (.ifCond .ne 6, 3) := by decide +kernel
theorem dX7_cellar_29 : decode cX7_cellar 29 = .ok (.ldc 86, 2) := by decide +kernel
theorem dX7_cellar_31 : decode cX7_cellar 31 = .ok (.ireturn, 1) := by decide +kernel
theorem dX7_cellar_32 : decode cX7_cellar 32 = .ok (.aload_n 0, 1) := by decide +kernel
theorem dX7_cellar_33 : decode cX7_cellar 33 = .ok (.getfield 9, 3) := by decide +kernel
theorem dX7_cellar_36 : decode cX7_cellar 36 = .ok (.iconst 1, 1) := by decide +kernel
theorem dX7_cellar_37 : decode cX7_cellar 37 = .ok (.iaload, 1) := by decide +kernel
theorem dX7_cellar_38 : decode cX7_cellar 38 = .ok (.bipush 8, 2) := by decide +kernel
theorem dX7_cellar_40 : decode cX7_cellar 40 = .ok (.if_icmp .ne 8, 3) := by decide +kernel
theorem dX7_cellar_43 : decode cX7_cellar 43 = .ok (.ldc 87, 2) := by decide +kernel
theorem dX7_cellar_45 : decode cX7_cellar 45 = .ok (.goto 10, 3) := by decide +kernel
theorem dX7_cellar_48 : decode cX7_cellar 48 = .ok (.aload_n 0, 1) := by decide +kernel
theorem dX7_cellar_49 : decode cX7_cellar 49 = .ok (.iload_n 1, 1) := by decide +kernel
theorem dX7_cellar_50 : decode cX7_cellar 50 = .ok (.iload_n 2, 1) := by decide +kernel
theorem dX7_cellar_51 : decode cX7_cellar 51 = .ok (.iload_n 3, 1) := by decide +kernel
theorem dX7_cellar_52 : decode cX7_cellar 52 = .ok (.invokevirtual 88, 3) := by decide +kernel
theorem dX7_cellar_55 : decode cX7_cellar 55 = .ok (.ireturn, 1) := by decide +kernel
theorem dX7_fullOf_0 : decode cX7_fullOf 0 = .ok (.aload_n 0, 1) := by decide +kernel
theorem dX7_fullOf_1 : decode cX7_fullOf 1 = .ok (.iload_n 1, 1) := by decide +kernel
theorem dX7_fullOf_2 : decode cX7_fullOf 2 = .ok (.iconst 3, 1) := by decide +kernel
theorem dX7_fullOf_3 : decode cX7_fullOf 3 = .ok (.invokevirtual 92, 3) := by decide +kernel
theorem dX7_fullOf_6 : decode cX7_fullOf 6 = .ok (.aload_n 0, 1) := by decide +kernel
theorem dX7_fullOf_7 : decode cX7_fullOf 7 = .ok (.iload_n 1, 1) := by decide +kernel
theorem dX7_fullOf_8 : decode cX7_fullOf 8 = .ok (.iconst 4, 1) := by decide +kernel
theorem dX7_fullOf_9 : decode cX7_fullOf 9 = .ok (.invokevirtual 92, 3) := by decide +kernel
theorem dX7_fullOf_12 : decode cX7_fullOf 12 = .ok (.iadd, 1) := by decide +kernel
theorem dX7_fullOf_13 : decode cX7_fullOf 13 = .ok (.aload_n 0, 1) := by decide +kernel
theorem dX7_fullOf_14 : decode cX7_fullOf 14 = .ok (.iload_n 1, 1) := by decide +kernel
theorem dX7_fullOf_15 : decode cX7_fullOf 15 = .ok (.iconst 5, 1) := by decide +kernel
theorem dX7_fullOf_16 : decode cX7_fullOf 16 = .ok (.invokevirtual 92, 3) := by decide +kernel
theorem dX7_fullOf_19 : decode cX7_fullOf 19 = .ok (.iadd, 1) := by decide +kernel
theorem dX7_fullOf_20 : decode cX7_fullOf 20 = .ok (.ireturn, 1) := by decide +kernel
theorem dX7_highOf_0 : decode cX7_highOf 0 = .ok (.aload_n 0, 1) := by decide +kernel
theorem dX7_highOf_1 : decode cX7_highOf 1 = .ok (.iload_n 1, 1) := by decide +kernel
theorem dX7_highOf_2 : decode cX7_highOf 2 = .ok (.invokevirtual 96, 3) := by decide +kernel
theorem dX7_highOf_5 : decode cX7_highOf 5 = .ok (.istore_n 2, 1) := by decide +kernel
theorem dX7_highOf_6 : decode cX7_highOf 6 = .ok (.aload_n 0, 1) := by decide +kernel
theorem dX7_highOf_7 : decode cX7_highOf 7 = .ok (.iconst 0, 1) := by decide +kernel
theorem dX7_highOf_8 : decode cX7_highOf 8 = .ok (.invokevirtual 100, 3) := by decide +kernel
theorem dX7_highOf_11 : decode cX7_highOf 11 = .ok (.istore_n 3, 1) := by decide +kernel
theorem dX7_highOf_12 : decode cX7_highOf 12 = .ok (.aload_n 0, 1) := by decide +kernel
theorem dX7_highOf_13 : decode cX7_highOf 13 = .ok (.getfield 51, 3) := by decide +kernel
theorem dX7_highOf_16 : decode cX7_highOf 16 = .ok (.iconst 0, 1) := by decide +kernel
theorem dX7_highOf_17 : decode cX7_highOf 17 = .ok (.iload_n 2, 1) := by decide +kernel
theorem dX7_highOf_18 : decode cX7_highOf 18 = .ok (.iastore, 1) := by decide +kernel
theorem dX7_highOf_19 : decode cX7_highOf 19 = .ok (.aload_n 0, 1) := by decide +kernel
theorem dX7_highOf_20 : decode cX7_highOf 20 = .ok (.getfield 51, 3) := by decide +kernel
theorem dX7_highOf_23 : decode cX7_highOf 23 = .ok (.iconst 1, 1) := by decide +kernel
theorem dX7_highOf_24 : decode cX7_highOf 24 = .ok (.aload_n 0, 1) := by decide +kernel
theorem dX7_highOf_25 : decode cX7_highOf 25 = .ok (.iload_n 1, 1) := by decide +kernel
theorem dX7_highOf_26 : decode cX7_highOf 26 = .ok (.iconst 2, 1) := by decide +kernel
theorem dX7_highOf_27 : decode cX7_highOf 27 = .ok (.invokevirtual 92, 3) := by decide +kernel
theorem dX7_highOf_30 : decode cX7_highOf 30 = .ok (.iastore, 1) := by decide +kernel
theorem dX7_highOf_31 : decode cX7_highOf 31 = .ok (.aload_n 0, 1) := by decide +kernel
theorem dX7_highOf_32 : decode cX7_highOf 32 = .ok (.getfield 51, 3) := by decide +kernel
theorem dX7_highOf_35 : decode cX7_highOf 35 = .ok (.iconst 2, 1) := by decide +kernel
theorem dX7_highOf_36 : decode cX7_highOf 36 = .ok (.aload_n 0, 1) := by decide +kernel
theorem dX7_highOf_37 : decode cX7_highOf 37 = .ok (.iload_n 1, 1) := by decide +kernel
theorem dX7_highOf_38 : decode cX7_highOf 38 = .ok (.iconst 3, 1) := by decide +kernel
theorem dX7_highOf_39 : decode cX7_highOf 39 = .ok (.invokevirtual 92, 3) := by decide +kernel
theorem dX7_highOf_42 : decode cX7_highOf 42 = .ok (.iastore, 1) := by decide +kernel
theorem dX7_highOf_43 : decode cX7_highOf 43 = .ok (.iload_n 3, 1) := by decide +kernel
theorem dX7_highOf_44 : decode cX7_highOf 44 = .ok (.ifCond .ge 17, 3) := by decide +kernel
theorem dX7_highOf_47 : decode cX7_highOf 47 = .ok (.iload_n 2, 1) := by decide +kernel
theorem dX7_highOf_48 : decode cX7_highOf 48 = .ok (.bipush 10, 2) := by decide +kernel
theorem dX7_highOf_50 : decode cX7_highOf 50 = .ok (.idiv, 1) := by decide +kernel
theorem dX7_highOf_51 : decode cX7_highOf 51 = .ok (.iconst 0, 1) := by decide +kernel
theorem dX7_highOf_52 : decode cX7_highOf 52 = .ok (.sipush 999, 3) := by decide +kernel
theorem dX7_highOf_55 : decode cX7_highOf 55 = .ok (.invokestatic 103, 3) := by decide +kernel
theorem dX7_highOf_58 : decode cX7_highOf 58 = .ok (.goto 15, 3) := by decide +kernel
theorem dX7_highOf_61 : decode cX7_highOf 61 = .ok (.aload_n 0, 1) := by decide +kernel
theorem dX7_highOf_62 : decode cX7_highOf 62 = .ok (.iload_n 3, 1) := by decide +kernel
theorem dX7_highOf_63 : decode cX7_highOf 63 = .ok (.invokevirtual 106, 3) := by decide +kernel
theorem dX7_highOf_66 : decode cX7_highOf 66 = .ok (.iconst 0, 1) := by decide +kernel
theorem dX7_highOf_67 : decode cX7_highOf 67 = .ok (.sipush 999, 3) := by decide +kernel
theorem dX7_highOf_70 : decode cX7_highOf 70 = .ok (.invokestatic 103, 3) := by decide +kernel
theorem dX7_highOf_73 : decode cX7_highOf 73 = .ok (.istore 4, 2) := by decide +kernel
theorem dX7_highOf_75 : decode cX7_highOf 75 = .ok (.aload_n 0, 1) := by decide +kernel
theorem dX7_highOf_76 : decode cX7_highOf 76 = .ok (.iload_n 1, 1) := by decide +kernel
theorem dX7_highOf_77 : decode cX7_highOf 77 = .ok (.iconst 0, 1) := by decide +kernel
theorem dX7_highOf_78 : decode cX7_highOf 78 = .ok (.invokevirtual 92, 3) := by decide +kernel
theorem dX7_highOf_81 : decode cX7_highOf 81 = .ok (.tableswitch 73 1 5 #[35, 57, 40, 57, 71], 35) := by decide +kernel
theorem dX7_highOf_116 : decode cX7_highOf 116 = .ok (.iload 4, 2) := by decide +kernel
theorem dX7_highOf_118 : decode cX7_highOf 118 = .ok (.iconst 2, 1) := by decide +kernel
theorem dX7_highOf_119 : decode cX7_highOf 119 = .ok (.idiv, 1) := by decide +kernel
theorem dX7_highOf_120 : decode cX7_highOf 120 = .ok (.ireturn, 1) := by decide +kernel
theorem dX7_highOf_121 : decode cX7_highOf 121 = .ok (.iload 4, 2) := by decide +kernel
theorem dX7_highOf_123 : decode cX7_highOf 123 = .ok (.iconst 4, 1) := by decide +kernel
theorem dX7_highOf_124 : decode cX7_highOf 124 = .ok (.if_icmp .ge 7, 3) := by decide +kernel
theorem dX7_highOf_127 : decode cX7_highOf 127 = .ok (.iconst 0, 1) := by decide +kernel
theorem dX7_highOf_128 : decode cX7_highOf 128 = .ok (.goto 9, 3) := by decide +kernel
theorem dX7_highOf_131 : decode cX7_highOf 131 = .ok (.iload 4, 2) := by decide +kernel
theorem dX7_highOf_133 : decode cX7_highOf 133 = .ok (.iconst 2, 1) := by decide +kernel
theorem dX7_highOf_134 : decode cX7_highOf 134 = .ok (.idiv, 1) := by decide +kernel
theorem dX7_highOf_135 : decode cX7_highOf 135 = .ok (.iconst 2, 1) := by decide +kernel
theorem dX7_highOf_136 : decode cX7_highOf 136 = .ok (.isub, 1) := by decide +kernel
theorem dX7_highOf_137 : decode cX7_highOf 137 = .ok (.ireturn, 1) := by decide +kernel
theorem dX7_highOf_138 : decode cX7_highOf 138 = .ok (.iload_n 2, 1) := by decide +kernel
theorem dX7_highOf_139 : decode cX7_highOf 139 = .ok (.ifCond .le 10, 3) := by decide +kernel
theorem dX7_highOf_142 : decode cX7_highOf 142 = .ok (.iload 4, 2) := by decide +kernel
theorem dX7_highOf_144 : decode cX7_highOf 144 = .ok (.iconst 1, 1) := by decide +kernel
theorem dX7_highOf_145 : decode cX7_highOf 145 = .ok (.iadd, 1) := by decide +kernel
theorem dX7_highOf_146 : decode cX7_highOf 146 = .ok (.goto 5, 3) := by decide +kernel
theorem dX7_highOf_149 : decode cX7_highOf 149 = .ok (.iload 4, 2) := by decide +kernel
theorem dX7_highOf_151 : decode cX7_highOf 151 = .ok (.ireturn, 1) := by decide +kernel
theorem dX7_highOf_152 : decode cX7_highOf 152 = .ok (.iconst 0, 1) := by decide +kernel
theorem dX7_highOf_153 : decode cX7_highOf 153 = .ok (.ireturn, 1) := by decide +kernel
theorem dX7_highOf_154 : decode cX7_highOf 154 = .ok (.iload 4, 2) := by decide +kernel
theorem dX7_highOf_156 : decode cX7_highOf 156 = .ok (.ireturn, 1) := by decide +kernel
theorem dX7_levelOf_0 : decode cX7_levelOf 0 = .ok (.aload_n 0, 1) := by decide +kernel
theorem dX7_levelOf_1 : decode cX7_levelOf 1 = .ok (.iload_n 1, 1) := by decide +kernel
theorem dX7_levelOf_2 : decode cX7_levelOf 2 = .ok (.iconst 1, 1) := by decide +kernel
theorem dX7_levelOf_3 : decode cX7_levelOf 3 = .ok (.invokevirtual 92, 3) := by decide +kernel
theorem dX7_levelOf_6 : decode cX7_levelOf 6 = .ok (.aload_n 0, 1) := by decide +kernel
theorem dX7_levelOf_7 : decode cX7_levelOf 7 = .ok (.iload_n 1, 1) := by decide +kernel
theorem dX7_levelOf_8 : decode cX7_levelOf 8 = .ok (.invokevirtual 109, 3) := by decide +kernel
theorem dX7_levelOf_11 : decode cX7_levelOf 11 = .ok (.iadd, 1) := by decide +kernel
theorem dX7_levelOf_12 : decode cX7_levelOf 12 = .ok (.ireturn, 1) := by decide +kernel
theorem dX7_losesOf_0 : decode cX7_losesOf 0 = .ok (.aload_n 0, 1) := by decide +kernel
theorem dX7_losesOf_1 : decode cX7_losesOf 1 = .ok (.iload_n 1, 1) := by decide +kernel
theorem dX7_losesOf_2 : decode cX7_losesOf 2 = .ok (.invokevirtual 96, 3) := by decide +kernel
theorem dX7_losesOf_5 : decode cX7_losesOf 5 = .ok (.bipush 20, 2) := by decide +kernel
theorem dX7_losesOf_7 : decode cX7_losesOf 7 = .ok (.idiv, 1) := by decide +kernel
theorem dX7_losesOf_8 : decode cX7_losesOf 8 = .ok (.istore_n 2, 1) := by decide +kernel
theorem dX7_losesOf_9 : decode cX7_losesOf 9 = .ok (.aload_n 0, 1) := by decide +kernel
theorem dX7_losesOf_10 : decode cX7_losesOf 10 = .ok (.iload_n 1, 1) := by decide +kernel
theorem dX7_losesOf_11 : decode cX7_losesOf 11 = .ok (.iconst 0, 1) := by decide +kernel
theorem dX7_losesOf_12 : decode cX7_losesOf 12 = .ok (.invokevirtual 92, 3) := by decide +kernel
theorem dX7_losesOf_15 : decode cX7_losesOf 15 = .ok (.lookupswitch 40 #[(2, 25), (4, 27)], 25) := by decide +kernel
theorem dX7_losesOf_40 : decode cX7_losesOf 40 = .ok (.iload_n 2, 1) := by decide +kernel
theorem dX7_losesOf_41 : decode cX7_losesOf 41 = .ok (.ireturn, 1) := by decide +kernel
theorem dX7_losesOf_42 : decode cX7_losesOf 42 = .ok (.iload_n 2, 1) := by decide +kernel
theorem dX7_losesOf_43 : decode cX7_losesOf 43 = .ok (.iconst 1, 1) := by decide +kernel
theorem dX7_losesOf_44 : decode cX7_losesOf 44 = .ok (.if_icmp .ge 7, 3) := by decide +kernel
theorem dX7_losesOf_47 : decode cX7_losesOf 47 = .ok (.iconst 0, 1) := by decide +kernel
theorem dX7_losesOf_48 : decode cX7_losesOf 48 = .ok (.goto 6, 3) := by decide +kernel
theorem dX7_losesOf_51 : decode cX7_losesOf 51 = .ok (.iload_n 2, 1) := by decide +kernel
theorem dX7_losesOf_52 : decode cX7_losesOf 52 = .ok (.iconst 1, 1) := by decide +kernel
theorem dX7_losesOf_53 : decode cX7_losesOf 53 = .ok (.isub, 1) := by decide +kernel
theorem dX7_losesOf_54 : decode cX7_losesOf 54 = .ok (.ireturn, 1) := by decide +kernel
theorem dX7_losesOf_55 : decode cX7_losesOf 55 = .ok (.iconst 0, 1) := by decide +kernel
theorem dX7_losesOf_56 : decode cX7_losesOf 56 = .ok (.ireturn, 1) := by decide +kernel
theorem dX7_takesIn_0 : decode cX7_takesIn 0 = .ok (.aload_n 0, 1) := by decide +kernel
theorem dX7_takesIn_1 : decode cX7_takesIn 1 = .ok (.iload_n 1, 1) := by decide +kernel
theorem dX7_takesIn_2 : decode cX7_takesIn 2 = .ok (.iconst 0, 1) := by decide +kernel
theorem dX7_takesIn_3 : decode cX7_takesIn 3 = .ok (.invokevirtual 92, 3) := by decide +kernel
theorem dX7_takesIn_6 : decode cX7_takesIn 6 = .ok (.iconst 3, 1) := by decide +kernel
theorem dX7_takesIn_7 : decode cX7_takesIn 7 = .ok (.if_icmp .ne 9, 3) := by decide +kernel
theorem dX7_takesIn_10 : decode cX7_takesIn 10 = .ok (.iload_n 2, 1) := by decide +kernel
theorem dX7_takesIn_11 : decode cX7_takesIn 11 = .ok (.iconst 2, 1) := by decide +kernel
theorem dX7_takesIn_12 : decode cX7_takesIn 12 = .ok (.idiv, 1) := by decide +kernel
theorem dX7_takesIn_13 : decode cX7_takesIn 13 = .ok (.goto 18, 3) := by decide +kernel
theorem dX7_takesIn_16 : decode cX7_takesIn 16 = .ok (.aload_n 0, 1) := by decide +kernel
theorem dX7_takesIn_17 : decode cX7_takesIn 17 = .ok (.iload_n 1, 1) := by decide +kernel
theorem dX7_takesIn_18 : decode cX7_takesIn 18 = .ok (.iconst 0, 1) := by decide +kernel
theorem dX7_takesIn_19 : decode cX7_takesIn 19 = .ok (.invokevirtual 92, 3) := by decide +kernel
theorem dX7_takesIn_22 : decode cX7_takesIn 22 = .ok (.iconst 5, 1) := by decide +kernel
theorem dX7_takesIn_23 : decode cX7_takesIn 23 = .ok (.if_icmp .ne 7, 3) := by decide +kernel
theorem dX7_takesIn_26 : decode cX7_takesIn 26 = .ok (.iconst 0, 1) := by decide +kernel
theorem dX7_takesIn_27 : decode cX7_takesIn 27 = .ok (.goto 4, 3) := by decide +kernel
theorem dX7_takesIn_30 : decode cX7_takesIn 30 = .ok (.iload_n 2, 1) := by decide +kernel
theorem dX7_takesIn_31 : decode cX7_takesIn 31 = .ok (.ireturn, 1) := by decide +kernel
theorem dX7_worthOf_0 : decode cX7_worthOf 0 = .ok (.aload_n 0, 1) := by decide +kernel
theorem dX7_worthOf_1 : decode cX7_worthOf 1 = .ok (.iload_n 1, 1) := by decide +kernel
theorem dX7_worthOf_2 : decode cX7_worthOf 2 = .ok (.iconst 2, 1) := by decide +kernel
theorem dX7_worthOf_3 : decode cX7_worthOf 3 = .ok (.invokevirtual 92, 3) := by decide +kernel
theorem dX7_worthOf_6 : decode cX7_worthOf 6 = .ok (.istore_n 2, 1) := by decide +kernel
theorem dX7_worthOf_7 : decode cX7_worthOf 7 = .ok (.aload_n 0, 1) := by decide +kernel
theorem dX7_worthOf_8 : decode cX7_worthOf 8 = .ok (.iload_n 1, 1) := by decide +kernel
theorem dX7_worthOf_9 : decode cX7_worthOf 9 = .ok (.iconst 0, 1) := by decide +kernel
theorem dX7_worthOf_10 : decode cX7_worthOf 10 = .ok (.invokevirtual 92, 3) := by decide +kernel
theorem dX7_worthOf_13 : decode cX7_worthOf 13 = .ok (.tableswitch 59 1 5 #[35, 40, 45, 52, 57], 35) := by decide +kernel
theorem dX7_worthOf_48 : decode cX7_worthOf 48 = .ok (.iload_n 2, 1) := by decide +kernel
theorem dX7_worthOf_49 : decode cX7_worthOf 49 = .ok (.bipush 6, 2) := by decide +kernel
theorem dX7_worthOf_51 : decode cX7_worthOf 51 = .ok (.iadd, 1) := by decide +kernel
theorem dX7_worthOf_52 : decode cX7_worthOf 52 = .ok (.ireturn, 1) := by decide +kernel
theorem dX7_worthOf_53 : decode cX7_worthOf 53 = .ok (.bipush 99, 2) := by decide +kernel
theorem dX7_worthOf_55 : decode cX7_worthOf 55 = .ok (.iload_n 2, 1) := by decide +kernel
theorem dX7_worthOf_56 : decode cX7_worthOf 56 = .ok (.isub, 1) := by decide +kernel
theorem dX7_worthOf_57 : decode cX7_worthOf 57 = .ok (.ireturn, 1) := by decide +kernel
theorem dX7_worthOf_58 : decode cX7_worthOf 58 = .ok (.iconst 2, 1) := by decide +kernel
theorem dX7_worthOf_59 : decode cX7_worthOf 59 = .ok (.iload_n 2, 1) := by decide +kernel
theorem dX7_worthOf_60 : decode cX7_worthOf 60 = .ok (.bipush 6, 2) := by decide +kernel
theorem dX7_worthOf_62 : decode cX7_worthOf 62 = .ok (.iadd, 1) := by decide +kernel
theorem dX7_worthOf_63 : decode cX7_worthOf 63 = .ok (.imul, 1) := by decide +kernel
theorem dX7_worthOf_64 : decode cX7_worthOf 64 = .ok (.ireturn, 1) := by decide +kernel
theorem dX7_worthOf_65 : decode cX7_worthOf 65 = .ok (.bipush 91, 2) := by decide +kernel
theorem dX7_worthOf_67 : decode cX7_worthOf 67 = .ok (.iload_n 2, 1) := by decide +kernel
theorem dX7_worthOf_68 : decode cX7_worthOf 68 = .ok (.isub, 1) := by decide +kernel
theorem dX7_worthOf_69 : decode cX7_worthOf 69 = .ok (.ireturn, 1) := by decide +kernel
theorem dX7_worthOf_70 : decode cX7_worthOf 70 = .ok (.iconst 3, 1) := by decide +kernel
theorem dX7_worthOf_71 : decode cX7_worthOf 71 = .ok (.ireturn, 1) := by decide +kernel
theorem dX7_worthOf_72 : decode cX7_worthOf 72 = .ok (.iload_n 2, 1) := by decide +kernel
theorem dX7_worthOf_73 : decode cX7_worthOf 73 = .ok (.ireturn, 1) := by decide +kernel
theorem dX7_told_0 : decode cX7_told 0 = .ok (.aload_n 0, 1) := by decide +kernel
theorem dX7_told_1 : decode cX7_told 1 = .ok (.iload_n 1, 1) := by decide +kernel
theorem dX7_told_2 : decode cX7_told 2 = .ok (.invokevirtual 112, 3) := by decide +kernel
theorem dX7_told_5 : decode cX7_told 5 = .ok (.ifCond .ne 6, 3) := by decide +kernel
theorem dX7_told_8 : decode cX7_told 8 = .ok (.ldc 86, 2) := by decide +kernel
theorem dX7_told_10 : decode cX7_told 10 = .ok (.ireturn, 1) := by decide +kernel
theorem dX7_told_11 : decode cX7_told 11 = .ok (.iload_n 2, 1) := by decide +kernel
theorem dX7_told_12 : decode cX7_told 12 = .ok (.tableswitch 106 0 10 #[60, 60, 60, 67, 73, 79, 85, 91, 97, 97, 97], 60) := by decide +kernel
theorem dX7_told_72 : decode cX7_told 72 = .ok (.aload_n 0, 1) := by decide +kernel
theorem dX7_told_73 : decode cX7_told 73 = .ok (.iload_n 1, 1) := by decide +kernel
theorem dX7_told_74 : decode cX7_told 74 = .ok (.iload_n 2, 1) := by decide +kernel
theorem dX7_told_75 : decode cX7_told 75 = .ok (.invokevirtual 92, 3) := by decide +kernel
theorem dX7_told_78 : decode cX7_told 78 = .ok (.ireturn, 1) := by decide +kernel
theorem dX7_told_79 : decode cX7_told 79 = .ok (.aload_n 0, 1) := by decide +kernel
theorem dX7_told_80 : decode cX7_told 80 = .ok (.iload_n 1, 1) := by decide +kernel
theorem dX7_told_81 : decode cX7_told 81 = .ok (.invokevirtual 96, 3) := by decide +kernel
theorem dX7_told_84 : decode cX7_told 84 = .ok (.ireturn, 1) := by decide +kernel
theorem dX7_told_85 : decode cX7_told 85 = .ok (.aload_n 0, 1) := by decide +kernel
theorem dX7_told_86 : decode cX7_told 86 = .ok (.iload_n 1, 1) := by decide +kernel
theorem dX7_told_87 : decode cX7_told 87 = .ok (.invokevirtual 109, 3) := by decide +kernel
theorem dX7_told_90 : decode cX7_told 90 = .ok (.ireturn, 1) := by decide +kernel
theorem dX7_told_91 : decode cX7_told 91 = .ok (.aload_n 0, 1) := by decide +kernel
theorem dX7_told_92 : decode cX7_told 92 = .ok (.iload_n 1, 1) := by decide +kernel
theorem dX7_told_93 : decode cX7_told 93 = .ok (.invokevirtual 116, 3) := by decide +kernel
theorem dX7_told_96 : decode cX7_told 96 = .ok (.ireturn, 1) := by decide +kernel
theorem dX7_told_97 : decode cX7_told 97 = .ok (.aload_n 0, 1) := by decide +kernel
theorem dX7_told_98 : decode cX7_told 98 = .ok (.iload_n 1, 1) := by decide +kernel
theorem dX7_told_99 : decode cX7_told 99 = .ok (.invokevirtual 119, 3) := by decide +kernel
theorem dX7_told_102 : decode cX7_told 102 = .ok (.ireturn, 1) := by decide +kernel
theorem dX7_told_103 : decode cX7_told 103 = .ok (.aload_n 0, 1) := by decide +kernel
theorem dX7_told_104 : decode cX7_told 104 = .ok (.iload_n 1, 1) := by decide +kernel
theorem dX7_told_105 : decode cX7_told 105 = .ok (.invokevirtual 122, 3) := by decide +kernel
theorem dX7_told_108 : decode cX7_told 108 = .ok (.ireturn, 1) := by decide +kernel
theorem dX7_told_109 : decode cX7_told 109 = .ok (.aload_n 0, 1) := by decide +kernel
theorem dX7_told_110 : decode cX7_told 110 = .ok (.iload_n 1, 1) := by decide +kernel
theorem dX7_told_111 : decode cX7_told 111 = .ok (.iload_n 2, 1) := by decide +kernel
theorem dX7_told_112 : decode cX7_told 112 = .ok (.iconst 5, 1) := by decide +kernel
theorem dX7_told_113 : decode cX7_told 113 = .ok (.isub, 1) := by decide +kernel
theorem dX7_told_114 : decode cX7_told 114 = .ok (.invokevirtual 92, 3) := by decide +kernel
theorem dX7_told_117 : decode cX7_told 117 = .ok (.ireturn, 1) := by decide +kernel
theorem dX7_told_118 : decode cX7_told 118 = .ok (.ldc 86, 2) := by decide +kernel
theorem dX7_told_120 : decode cX7_told 120 = .ok (.ireturn, 1) := by decide +kernel
theorem dX7_takes_0 : decode cX7_takes 0 = .ok (.aload_n 0, 1) := by decide +kernel
theorem dX7_takes_1 : decode cX7_takes 1 = .ok (.iload_n 1, 1) := by decide +kernel
theorem dX7_takes_2 : decode cX7_takes 2 = .ok (.invokevirtual 112, 3) := by decide +kernel
theorem dX7_takes_5 : decode cX7_takes 5 = .ok (.ifCond .eq 23, 3) := by decide +kernel
theorem dX7_takes_8 : decode cX7_takes 8 = .ok (.iload_n 2, 1) := by decide +kernel
theorem dX7_takes_9 : decode cX7_takes 9 = .ok (.iconst 0, 1) := by decide +kernel
theorem dX7_takes_10 : decode cX7_takes 10 = .ok (.sipush 9999, 3) := by decide +kernel
theorem dX7_takes_13 : decode cX7_takes 13 = .ok (.invokestatic 82, 3) := by decide +kernel
theorem dX7_takes_16 : decode cX7_takes 16 = .ok (.ifCond .eq 12, 3) := by decide +kernel
theorem dX7_takes_19 : decode cX7_takes 19 = .ok (.aload_n 0, 1) := by decide +kernel
theorem dX7_takes_20 : decode cX7_takes 20 = .ok (.iload_n 1, 1) := by decide +kernel
theorem dX7_takes_21 : decode cX7_takes 21 = .ok (.iload_n 2, 1) := by decide +kernel
theorem dX7_takes_22 : decode cX7_takes 22 = .ok (.invokevirtual 125, 3) := by decide +kernel
theorem dX7_takes_25 : decode cX7_takes 25 = .ok (.goto 5, 3) := by decide +kernel
theorem dX7_takes_28 : decode cX7_takes 28 = .ok (.ldc 86, 2) := by decide +kernel
theorem dX7_takes_30 : decode cX7_takes 30 = .ok (.ireturn, 1) := by decide +kernel
theorem dX7_isUnder_0 : decode cX7_isUnder 0 = .ok (.iload_n 1, 1) := by decide +kernel
theorem dX7_isUnder_1 : decode cX7_isUnder 1 = .ok (.ifCond .eq 28, 3) := by decide +kernel
theorem dX7_isUnder_4 : decode cX7_isUnder 4 = .ok (.iload_n 0, 1) := by decide +kernel
theorem dX7_isUnder_5 : decode cX7_isUnder 5 = .ok (.iload_n 1, 1) := by decide +kernel
theorem dX7_isUnder_6 : decode cX7_isUnder 6 = .ok (.if_icmp .eq 23, 3) := by decide +kernel
theorem dX7_isUnder_9 : decode cX7_isUnder 9 = .ok (.iload_n 1, 1) := by decide +kernel
theorem dX7_isUnder_10 : decode cX7_isUnder 10 = .ok (.iconst 1, 1) := by decide +kernel
theorem dX7_isUnder_11 : decode cX7_isUnder 11 = .ok (.if_icmp .ne 8, 3) := by decide +kernel
theorem dX7_isUnder_14 : decode cX7_isUnder 14 = .ok (.iload_n 0, 1) := by decide +kernel
theorem dX7_isUnder_15 : decode cX7_isUnder 15 = .ok (.iconst 3, 1) := by decide +kernel
theorem dX7_isUnder_16 : decode cX7_isUnder 16 = .ok (.if_icmp .eq 13, 3) := by decide +kernel
theorem dX7_isUnder_19 : decode cX7_isUnder 19 = .ok (.iload_n 1, 1) := by decide +kernel
theorem dX7_isUnder_20 : decode cX7_isUnder 20 = .ok (.iconst 2, 1) := by decide +kernel
theorem dX7_isUnder_21 : decode cX7_isUnder 21 = .ok (.if_icmp .ne 12, 3) := by decide +kernel
theorem dX7_isUnder_24 : decode cX7_isUnder 24 = .ok (.iload_n 0, 1) := by decide +kernel
theorem dX7_isUnder_25 : decode cX7_isUnder 25 = .ok (.iconst 4, 1) := by decide +kernel
theorem dX7_isUnder_26 : decode cX7_isUnder 26 = .ok (.if_icmp .ne 7, 3) := by decide +kernel
theorem dX7_isUnder_29 : decode cX7_isUnder 29 = .ok (.iconst 1, 1) := by decide +kernel
theorem dX7_isUnder_30 : decode cX7_isUnder 30 = .ok (.goto 4, 3) := by decide +kernel
theorem dX7_isUnder_33 : decode cX7_isUnder 33 = .ok (.iconst 0, 1) := by decide +kernel
theorem dX7_isUnder_34 : decode cX7_isUnder 34 = .ok (.ireturn, 1) := by decide +kernel
theorem dX7_as_0 : decode cX7_as 0 = .ok (.aload_n 0, 1) := by decide +kernel
theorem dX7_as_1 : decode cX7_as 1 = .ok (.iload_n 1, 1) := by decide +kernel
theorem dX7_as_2 : decode cX7_as 2 = .ok (.invokevirtual 112, 3) := by decide +kernel
theorem dX7_as_5 : decode cX7_as 5 = .ok (.ifCond .eq 12, 3) := by decide +kernel
theorem dX7_as_8 : decode cX7_as 8 = .ok (.iload_n 2, 1) := by decide +kernel
theorem dX7_as_9 : decode cX7_as 9 = .ok (.iconst 0, 1) := by decide +kernel
theorem dX7_as_10 : decode cX7_as 10 = .ok (.iconst 5, 1) := by decide +kernel
theorem dX7_as_11 : decode cX7_as 11 = .ok (.invokestatic 82, 3) := by decide +kernel
theorem dX7_as_14 : decode cX7_as 14 = .ok (.ifCond .ne 6, 3) := by decide +kernel
theorem dX7_as_17 : decode cX7_as 17 = .ok (.ldc 86, 2) := by decide +kernel
theorem dX7_as_19 : decode cX7_as 19 = .ok (.ireturn, 1) := by decide +kernel
theorem dX7_as_20 : decode cX7_as 20 = .ok (.aload_n 0, 1) := by decide +kernel
theorem dX7_as_21 : decode cX7_as 21 = .ok (.iload_n 1, 1) := by decide +kernel
theorem dX7_as_22 : decode cX7_as 22 = .ok (.iconst 0, 1) := by decide +kernel
theorem dX7_as_23 : decode cX7_as 23 = .ok (.invokevirtual 92, 3) := by decide +kernel
theorem dX7_as_26 : decode cX7_as 26 = .ok (.iload_n 2, 1) := by decide +kernel
theorem dX7_as_27 : decode cX7_as 27 = .ok (.invokestatic 128, 3) := by decide +kernel
theorem dX7_as_30 : decode cX7_as 30 = .ok (.ifCond .eq 12, 3) := by decide +kernel
theorem dX7_as_33 : decode cX7_as 33 = .ok (.aload_n 0, 1) := by decide +kernel
theorem dX7_as_34 : decode cX7_as 34 = .ok (.iload_n 1, 1) := by decide +kernel
theorem dX7_as_35 : decode cX7_as 35 = .ok (.iconst 2, 1) := by decide +kernel
theorem dX7_as_36 : decode cX7_as 36 = .ok (.invokevirtual 92, 3) := by decide +kernel
theorem dX7_as_39 : decode cX7_as 39 = .ok (.goto 5, 3) := by decide +kernel
theorem dX7_as_42 : decode cX7_as 42 = .ok (.ldc 132, 2) := by decide +kernel
theorem dX7_as_44 : decode cX7_as 44 = .ok (.ireturn, 1) := by decide +kernel
theorem dX7_turns_0 : decode cX7_turns 0 = .ok (.aload_n 0, 1) := by decide +kernel
theorem dX7_turns_1 : decode cX7_turns 1 = .ok (.iload_n 1, 1) := by decide +kernel
theorem dX7_turns_2 : decode cX7_turns 2 = .ok (.invokevirtual 112, 3) := by decide +kernel
theorem dX7_turns_5 : decode cX7_turns 5 = .ok (.ifCond .eq 27, 3) := by decide +kernel
theorem dX7_turns_8 : decode cX7_turns 8 = .ok (.iload_n 2, 1) := by decide +kernel
theorem dX7_turns_9 : decode cX7_turns 9 = .ok (.iconst 0, 1) := by decide +kernel
theorem dX7_turns_10 : decode cX7_turns 10 = .ok (.iconst 5, 1) := by decide +kernel
theorem dX7_turns_11 : decode cX7_turns 11 = .ok (.invokestatic 82, 3) := by decide +kernel
theorem dX7_turns_14 : decode cX7_turns 14 = .ok (.ifCond .eq 18, 3) := by decide +kernel
theorem dX7_turns_17 : decode cX7_turns 17 = .ok (.aload_n 0, 1) := by decide +kernel
theorem dX7_turns_18 : decode cX7_turns 18 = .ok (.bipush 7, 2) := by decide +kernel
theorem dX7_turns_20 : decode cX7_turns 20 = .ok (.bipush 6, 2) := by decide +kernel
theorem dX7_turns_22 : decode cX7_turns 22 = .ok (.iload_n 1, 1) := by decide +kernel
theorem dX7_turns_23 : decode cX7_turns 23 = .ok (.imul, 1) := by decide +kernel
theorem dX7_turns_24 : decode cX7_turns 24 = .ok (.iadd, 1) := by decide +kernel
theorem dX7_turns_25 : decode cX7_turns 25 = .ok (.iload_n 2, 1) := by decide +kernel
theorem dX7_turns_26 : decode cX7_turns 26 = .ok (.invokevirtual 133, 3) := by decide +kernel
theorem dX7_turns_29 : decode cX7_turns 29 = .ok (.goto 5, 3) := by decide +kernel
theorem dX7_turns_32 : decode cX7_turns 32 = .ok (.ldc 86, 2) := by decide +kernel
theorem dX7_turns_34 : decode cX7_turns 34 = .ok (.ireturn, 1) := by decide +kernel
theorem dX7_set_0 : decode cX7_set 0 = .ok (.aload_n 0, 1) := by decide +kernel
theorem dX7_set_1 : decode cX7_set 1 = .ok (.iload_n 1, 1) := by decide +kernel
theorem dX7_set_2 : decode cX7_set 2 = .ok (.invokevirtual 112, 3) := by decide +kernel
theorem dX7_set_5 : decode cX7_set 5 = .ok (.ifCond .ne 6, 3) := by decide +kernel
theorem dX7_set_8 : decode cX7_set 8 = .ok (.ldc 86, 2) := by decide +kernel
theorem dX7_set_10 : decode cX7_set 10 = .ok (.ireturn, 1) := by decide +kernel
theorem dX7_set_11 : decode cX7_set 11 = .ok (.iload_n 2, 1) := by decide +kernel
theorem dX7_set_12 : decode cX7_set 12 = .ok (.bipush 8, 2) := by decide +kernel
theorem dX7_set_14 : decode cX7_set 14 = .ok (.bipush 10, 2) := by decide +kernel
theorem dX7_set_16 : decode cX7_set 16 = .ok (.invokestatic 82, 3) := by decide +kernel
theorem dX7_set_19 : decode cX7_set 19 = .ok (.ifCond .eq 36, 3) := by decide +kernel
theorem dX7_set_22 : decode cX7_set 22 = .ok (.iload_n 3, 1) := by decide +kernel
theorem dX7_set_23 : decode cX7_set 23 = .ok (.iconst 0, 1) := by decide +kernel
theorem dX7_set_24 : decode cX7_set 24 = .ok (.sipush 999, 3) := by decide +kernel
theorem dX7_set_27 : decode cX7_set 27 = .ok (.invokestatic 82, 3) := by decide +kernel
theorem dX7_set_30 : decode cX7_set 30 = .ok (.ifCond .eq 22, 3) := by decide +kernel
theorem dX7_set_33 : decode cX7_set 33 = .ok (.aload_n 0, 1) := by decide +kernel
theorem dX7_set_34 : decode cX7_set 34 = .ok (.bipush 7, 2) := by decide +kernel
theorem dX7_set_36 : decode cX7_set 36 = .ok (.bipush 6, 2) := by decide +kernel
theorem dX7_set_38 : decode cX7_set 38 = .ok (.iload_n 1, 1) := by decide +kernel
theorem dX7_set_39 : decode cX7_set 39 = .ok (.imul, 1) := by decide +kernel
theorem dX7_set_40 : decode cX7_set 40 = .ok (.iadd, 1) := by decide +kernel
theorem dX7_set_41 : decode cX7_set 41 = .ok (.iload_n 2, 1) := by decide +kernel
theorem dX7_set_42 : decode cX7_set 42 = .ok (.iadd, 1) := by decide +kernel
theorem dX7_set_43 : decode cX7_set 43 = .ok (.iconst 5, 1) := by decide +kernel
theorem dX7_set_44 : decode cX7_set 44 = .ok (.isub, 1) := by decide +kernel
theorem dX7_set_45 : decode cX7_set 45 = .ok (.iload_n 3, 1) := by decide +kernel
theorem dX7_set_46 : decode cX7_set 46 = .ok (.invokevirtual 133, 3) := by decide +kernel
theorem dX7_set_49 : decode cX7_set 49 = .ok (.goto 5, 3) := by decide +kernel
theorem dX7_set_52 : decode cX7_set 52 = .ok (.ldc 86, 2) := by decide +kernel
theorem dX7_set_54 : decode cX7_set 54 = .ok (.ireturn, 1) := by decide +kernel
theorem dX7_set_55 : decode cX7_set 55 = .ok (.iload_n 2, 1) := by decide +kernel
theorem dX7_set_56 : decode cX7_set 56 = .ok (.iconst 1, 1) := by decide +kernel
theorem dX7_set_57 : decode cX7_set 57 = .ok (.iconst 2, 1) := by decide +kernel
theorem dX7_set_58 : decode cX7_set 58 = .ok (.invokestatic 82, 3) := by decide +kernel
theorem dX7_set_61 : decode cX7_set 61 = .ok (.ifCond .eq 32, 3) := by decide +kernel
theorem dX7_set_64 : decode cX7_set 64 = .ok (.iload_n 3, 1) := by decide +kernel
theorem dX7_set_65 : decode cX7_set 65 = .ok (.iload_n 2, 1) := by decide +kernel
theorem dX7_set_66 : decode cX7_set 66 = .ok (.iconst 1, 1) := by decide +kernel
theorem dX7_set_67 : decode cX7_set 67 = .ok (.isub, 1) := by decide +kernel
theorem dX7_set_68 : decode cX7_set 68 = .ok (.bipush 99, 2) := by decide +kernel
theorem dX7_set_70 : decode cX7_set 70 = .ok (.invokestatic 82, 3) := by decide +kernel
theorem dX7_set_73 : decode cX7_set 73 = .ok (.ifCond .eq 20, 3) := by decide +kernel
theorem dX7_set_76 : decode cX7_set 76 = .ok (.aload_n 0, 1) := by decide +kernel
theorem dX7_set_77 : decode cX7_set 77 = .ok (.bipush 7, 2) := by decide +kernel
theorem dX7_set_79 : decode cX7_set 79 = .ok (.bipush 6, 2) := by decide +kernel
theorem dX7_set_81 : decode cX7_set 81 = .ok (.iload_n 1, 1) := by decide +kernel
theorem dX7_set_82 : decode cX7_set 82 = .ok (.imul, 1) := by decide +kernel
theorem dX7_set_83 : decode cX7_set 83 = .ok (.iadd, 1) := by decide +kernel
theorem dX7_set_84 : decode cX7_set 84 = .ok (.iload_n 2, 1) := by decide +kernel
theorem dX7_set_85 : decode cX7_set 85 = .ok (.iadd, 1) := by decide +kernel
theorem dX7_set_86 : decode cX7_set 86 = .ok (.iload_n 3, 1) := by decide +kernel
theorem dX7_set_87 : decode cX7_set 87 = .ok (.invokevirtual 133, 3) := by decide +kernel
theorem dX7_set_90 : decode cX7_set 90 = .ok (.goto 5, 3) := by decide +kernel
theorem dX7_set_93 : decode cX7_set 93 = .ok (.ldc 86, 2) := by decide +kernel
theorem dX7_set_95 : decode cX7_set 95 = .ok (.ireturn, 1) := by decide +kernel
theorem dX7_lays_0 : decode cX7_lays 0 = .ok (.bipush 55, 2) := by decide +kernel
theorem dX7_lays_2 : decode cX7_lays 2 = .ok (.iconst 4, 1) := by decide +kernel
theorem dX7_lays_3 : decode cX7_lays 3 = .ok (.iload_n 1, 1) := by decide +kernel
theorem dX7_lays_4 : decode cX7_lays 4 = .ok (.imul, 1) := by decide +kernel
theorem dX7_lays_5 : decode cX7_lays 5 = .ok (.iadd, 1) := by decide +kernel
theorem dX7_lays_6 : decode cX7_lays 6 = .ok (.istore 5, 2) := by decide +kernel
theorem dX7_lays_8 : decode cX7_lays 8 = .ok (.aload_n 0, 1) := by decide +kernel
theorem dX7_lays_9 : decode cX7_lays 9 = .ok (.getfield 9, 3) := by decide +kernel
theorem dX7_lays_12 : decode cX7_lays 12 = .ok (.iload 5, 2) := by decide +kernel
theorem dX7_lays_14 : decode cX7_lays 14 = .ok (.iload_n 2, 1) := by decide +kernel
theorem dX7_lays_15 : decode cX7_lays 15 = .ok (.iastore, 1) := by decide +kernel
theorem dX7_lays_16 : decode cX7_lays 16 = .ok (.aload_n 0, 1) := by decide +kernel
theorem dX7_lays_17 : decode cX7_lays 17 = .ok (.getfield 9, 3) := by decide +kernel
theorem dX7_lays_20 : decode cX7_lays 20 = .ok (.iload 5, 2) := by decide +kernel
theorem dX7_lays_22 : decode cX7_lays 22 = .ok (.iconst 1, 1) := by decide +kernel
theorem dX7_lays_23 : decode cX7_lays 23 = .ok (.iadd, 1) := by decide +kernel
theorem dX7_lays_24 : decode cX7_lays 24 = .ok (.iload_n 3, 1) := by decide +kernel
theorem dX7_lays_25 : decode cX7_lays 25 = .ok (.iastore, 1) := by decide +kernel
theorem dX7_lays_26 : decode cX7_lays 26 = .ok (.aload_n 0, 1) := by decide +kernel
theorem dX7_lays_27 : decode cX7_lays 27 = .ok (.getfield 9, 3) := by decide +kernel
theorem dX7_lays_30 : decode cX7_lays 30 = .ok (.iload 5, 2) := by decide +kernel
theorem dX7_lays_32 : decode cX7_lays 32 = .ok (.iconst 2, 1) := by decide +kernel
theorem dX7_lays_33 : decode cX7_lays 33 = .ok (.iadd, 1) := by decide +kernel
theorem dX7_lays_34 : decode cX7_lays 34 = .ok (.iload 4, 2) := by decide +kernel
theorem dX7_lays_36 : decode cX7_lays 36 = .ok (.iastore, 1) := by decide +kernel
theorem dX7_lays_37 : decode cX7_lays 37 = .ok (.aload_n 0, 1) := by decide +kernel
theorem dX7_lays_38 : decode cX7_lays 38 = .ok (.getfield 9, 3) := by decide +kernel
theorem dX7_lays_41 : decode cX7_lays 41 = .ok (.iload 5, 2) := by decide +kernel
theorem dX7_lays_43 : decode cX7_lays 43 = .ok (.iconst 3, 1) := by decide +kernel
theorem dX7_lays_44 : decode cX7_lays 44 = .ok (.iadd, 1) := by decide +kernel
theorem dX7_lays_45 : decode cX7_lays 45 = .ok (.iconst 0, 1) := by decide +kernel
theorem dX7_lays_46 : decode cX7_lays 46 = .ok (.iastore, 1) := by decide +kernel
theorem dX7_lays_47 : decode cX7_lays 47 = .ok (.return_, 1) := by decide +kernel
theorem dX7_pipe_0 : decode cX7_pipe 0 = .ok (.aload_n 0, 1) := by decide +kernel
theorem dX7_pipe_1 : decode cX7_pipe 1 = .ok (.iload_n 1, 1) := by decide +kernel
theorem dX7_pipe_2 : decode cX7_pipe 2 = .ok (.invokevirtual 112, 3) := by decide +kernel
theorem dX7_pipe_5 : decode cX7_pipe 5 = .ok (.ifCond .eq 26, 3) := by decide +kernel
theorem dX7_pipe_8 : decode cX7_pipe 8 = .ok (.aload_n 0, 1) := by decide +kernel
theorem dX7_pipe_9 : decode cX7_pipe 9 = .ok (.iload_n 2, 1) := by decide +kernel
theorem dX7_pipe_10 : decode cX7_pipe 10 = .ok (.invokevirtual 112, 3) := by decide +kernel
theorem dX7_pipe_13 : decode cX7_pipe 13 = .ok (.ifCond .eq 18, 3) := by decide +kernel
theorem dX7_pipe_16 : decode cX7_pipe 16 = .ok (.iload_n 1, 1) := by decide +kernel
theorem dX7_pipe_17 : decode cX7_pipe 17 = .ok (.iload_n 2, 1) := by decide +kernel
theorem dX7_pipe_18 : decode cX7_pipe 18 = .ok (.if_icmp .eq 13, 3) := by decide +kernel
theorem dX7_pipe_21 : decode cX7_pipe 21 = .ok (.iload_n 3, 1) := by decide +kernel
theorem dX7_pipe_22 : decode cX7_pipe 22 = .ok (.iconst 1, 1) := by decide +kernel
theorem dX7_pipe_23 : decode cX7_pipe 23 = .ok (.bipush 9, 2) := by decide +kernel
theorem dX7_pipe_25 : decode cX7_pipe 25 = .ok (.invokestatic 82, 3) := by decide +kernel
theorem dX7_pipe_28 : decode cX7_pipe 28 = .ok (.ifCond .ne 6, 3) := by decide +kernel
theorem dX7_pipe_31 : decode cX7_pipe 31 = .ok (.ldc 86, 2) := by decide +kernel
theorem dX7_pipe_33 : decode cX7_pipe 33 = .ok (.ireturn, 1) := by decide +kernel
theorem dX7_pipe_34 : decode cX7_pipe 34 = .ok (.aload_n 0, 1) := by decide +kernel
theorem dX7_pipe_35 : decode cX7_pipe 35 = .ok (.getfield 9, 3) := by decide +kernel
theorem dX7_pipe_38 : decode cX7_pipe 38 = .ok (.iconst 2, 1) := by decide +kernel
theorem dX7_pipe_39 : decode cX7_pipe 39 = .ok (.iaload, 1) := by decide +kernel
theorem dX7_pipe_40 : decode cX7_pipe 40 = .ok (.bipush 12, 2) := by decide +kernel
theorem dX7_pipe_42 : decode cX7_pipe 42 = .ok (.if_icmp .ne 6, 3) := by decide +kernel
theorem dX7_pipe_45 : decode cX7_pipe 45 = .ok (.ldc 87, 2) := by decide +kernel
theorem dX7_pipe_47 : decode cX7_pipe 47 = .ok (.ireturn, 1) := by decide +kernel
theorem dX7_pipe_48 : decode cX7_pipe 48 = .ok (.aload_n 0, 1) := by decide +kernel
theorem dX7_pipe_49 : decode cX7_pipe 49 = .ok (.aload_n 0, 1) := by decide +kernel
theorem dX7_pipe_50 : decode cX7_pipe 50 = .ok (.getfield 9, 3) := by decide +kernel
theorem dX7_pipe_53 : decode cX7_pipe 53 = .ok (.iconst 2, 1) := by decide +kernel
theorem dX7_pipe_54 : decode cX7_pipe 54 = .ok (.iaload, 1) := by decide +kernel
theorem dX7_pipe_55 : decode cX7_pipe 55 = .ok (.iload_n 1, 1) := by decide +kernel
theorem dX7_pipe_56 : decode cX7_pipe 56 = .ok (.iload_n 2, 1) := by decide +kernel
theorem dX7_pipe_57 : decode cX7_pipe 57 = .ok (.iload_n 3, 1) := by decide +kernel
theorem dX7_pipe_58 : decode cX7_pipe 58 = .ok (.invokevirtual 136, 3) := by decide +kernel
theorem dX7_pipe_61 : decode cX7_pipe 61 = .ok (.aload_n 0, 1) := by decide +kernel
theorem dX7_pipe_62 : decode cX7_pipe 62 = .ok (.getfield 9, 3) := by decide +kernel
theorem dX7_pipe_65 : decode cX7_pipe 65 = .ok (.iconst 2, 1) := by decide +kernel
theorem dX7_pipe_66 : decode cX7_pipe 66 = .ok (.dup2, 1) := by decide +kernel
theorem dX7_pipe_67 : decode cX7_pipe 67 = .ok (.iaload, 1) := by decide +kernel
theorem dX7_pipe_68 : decode cX7_pipe 68 = .ok (.iconst 1, 1) := by decide +kernel
theorem dX7_pipe_69 : decode cX7_pipe 69 = .ok (.iadd, 1) := by decide +kernel
theorem dX7_pipe_70 : decode cX7_pipe 70 = .ok (.iastore, 1) := by decide +kernel
theorem dX7_pipe_71 : decode cX7_pipe 71 = .ok (.aload_n 0, 1) := by decide +kernel
theorem dX7_pipe_72 : decode cX7_pipe 72 = .ok (.getfield 9, 3) := by decide +kernel
theorem dX7_pipe_75 : decode cX7_pipe 75 = .ok (.iconst 2, 1) := by decide +kernel
theorem dX7_pipe_76 : decode cX7_pipe 76 = .ok (.iaload, 1) := by decide +kernel
theorem dX7_pipe_77 : decode cX7_pipe 77 = .ok (.iconst 1, 1) := by decide +kernel
theorem dX7_pipe_78 : decode cX7_pipe 78 = .ok (.isub, 1) := by decide +kernel
theorem dX7_pipe_79 : decode cX7_pipe 79 = .ok (.ireturn, 1) := by decide +kernel
theorem dX7_higher_0 : decode cX7_higher 0 = .ok (.aload_n 0, 1) := by decide +kernel
theorem dX7_higher_1 : decode cX7_higher 1 = .ok (.aload_n 0, 1) := by decide +kernel
theorem dX7_higher_2 : decode cX7_higher 2 = .ok (.iload_n 1, 1) := by decide +kernel
theorem dX7_higher_3 : decode cX7_higher 3 = .ok (.iconst 0, 1) := by decide +kernel
theorem dX7_higher_4 : decode cX7_higher 4 = .ok (.invokevirtual 140, 3) := by decide +kernel
theorem dX7_higher_7 : decode cX7_higher 7 = .ok (.invokevirtual 116, 3) := by decide +kernel
theorem dX7_higher_10 : decode cX7_higher 10 = .ok (.aload_n 0, 1) := by decide +kernel
theorem dX7_higher_11 : decode cX7_higher 11 = .ok (.aload_n 0, 1) := by decide +kernel
theorem dX7_higher_12 : decode cX7_higher 12 = .ok (.iload_n 1, 1) := by decide +kernel
theorem dX7_higher_13 : decode cX7_higher 13 = .ok (.iconst 1, 1) := by decide +kernel
theorem dX7_higher_14 : decode cX7_higher 14 = .ok (.invokevirtual 140, 3) := by decide +kernel
theorem dX7_higher_17 : decode cX7_higher 17 = .ok (.invokevirtual 116, 3) := by decide +kernel
theorem dX7_higher_20 : decode cX7_higher 20 = .ok (.if_icmp .le 12, 3) := by decide +kernel
theorem dX7_higher_23 : decode cX7_higher 23 = .ok (.aload_n 0, 1) := by decide +kernel
theorem dX7_higher_24 : decode cX7_higher 24 = .ok (.iload_n 1, 1) := by decide +kernel
theorem dX7_higher_25 : decode cX7_higher 25 = .ok (.iconst 0, 1) := by decide +kernel
theorem dX7_higher_26 : decode cX7_higher 26 = .ok (.invokevirtual 140, 3) := by decide +kernel
theorem dX7_higher_29 : decode cX7_higher 29 = .ok (.goto 9, 3) := by decide +kernel
theorem dX7_higher_32 : decode cX7_higher 32 = .ok (.aload_n 0, 1) := by decide +kernel
theorem dX7_higher_33 : decode cX7_higher 33 = .ok (.iload_n 1, 1) := by decide +kernel
theorem dX7_higher_34 : decode cX7_higher 34 = .ok (.iconst 1, 1) := by decide +kernel
theorem dX7_higher_35 : decode cX7_higher 35 = .ok (.invokevirtual 140, 3) := by decide +kernel
theorem dX7_higher_38 : decode cX7_higher 38 = .ok (.ireturn, 1) := by decide +kernel
theorem dX7_runsIn_0 : decode cX7_runsIn 0 = .ok (.aload_n 0, 1) := by decide +kernel
theorem dX7_runsIn_1 : decode cX7_runsIn 1 = .ok (.iload_n 1, 1) := by decide +kernel
theorem dX7_runsIn_2 : decode cX7_runsIn 2 = .ok (.iconst 3, 1) := by decide +kernel
theorem dX7_runsIn_3 : decode cX7_runsIn 3 = .ok (.invokevirtual 140, 3) := by decide +kernel
theorem dX7_runsIn_6 : decode cX7_runsIn 6 = .ok (.iconst 1, 1) := by decide +kernel
theorem dX7_runsIn_7 : decode cX7_runsIn 7 = .ok (.if_icmp .ne 5, 3) := by decide +kernel
theorem dX7_runsIn_10 : decode cX7_runsIn 10 = .ok (.iconst 0, 1) := by decide +kernel
theorem dX7_runsIn_11 : decode cX7_runsIn 11 = .ok (.ireturn, 1) := by decide +kernel
theorem dX7_runsIn_12 : decode cX7_runsIn 12 = .ok (.aload_n 0, 1) := by decide +kernel
theorem dX7_runsIn_13 : decode cX7_runsIn 13 = .ok (.iload_n 1, 1) := by decide +kernel
theorem dX7_runsIn_14 : decode cX7_runsIn 14 = .ok (.invokevirtual 143, 3) := by decide +kernel
theorem dX7_runsIn_17 : decode cX7_runsIn 17 = .ok (.istore_n 2, 1) := by decide +kernel
theorem dX7_runsIn_18 : decode cX7_runsIn 18 = .ok (.aload_n 0, 1) := by decide +kernel
theorem dX7_runsIn_19 : decode cX7_runsIn 19 = .ok (.iload_n 1, 1) := by decide +kernel
theorem dX7_runsIn_20 : decode cX7_runsIn 20 = .ok (.iconst 0, 1) := by decide +kernel
theorem dX7_runsIn_21 : decode cX7_runsIn 21 = .ok (.invokevirtual 140, 3) := by decide +kernel
theorem dX7_runsIn_24 : decode cX7_runsIn 24 = .ok (.aload_n 0, 1) := by decide +kernel
theorem dX7_runsIn_25 : decode cX7_runsIn 25 = .ok (.iload_n 1, 1) := by decide +kernel
theorem dX7_runsIn_26 : decode cX7_runsIn 26 = .ok (.iconst 1, 1) := by decide +kernel
theorem dX7_runsIn_27 : decode cX7_runsIn 27 = .ok (.invokevirtual 140, 3) := by decide +kernel
theorem dX7_runsIn_30 : decode cX7_runsIn 30 = .ok (.iadd, 1) := by decide +kernel
theorem dX7_runsIn_31 : decode cX7_runsIn 31 = .ok (.iload_n 2, 1) := by decide +kernel
theorem dX7_runsIn_32 : decode cX7_runsIn 32 = .ok (.isub, 1) := by decide +kernel
theorem dX7_runsIn_33 : decode cX7_runsIn 33 = .ok (.istore_n 3, 1) := by decide +kernel
theorem dX7_runsIn_34 : decode cX7_runsIn 34 = .ok (.aload_n 0, 1) := by decide +kernel
theorem dX7_runsIn_35 : decode cX7_runsIn 35 = .ok (.iload_n 1, 1) := by decide +kernel
theorem dX7_runsIn_36 : decode cX7_runsIn 36 = .ok (.iconst 2, 1) := by decide +kernel
theorem dX7_runsIn_37 : decode cX7_runsIn 37 = .ok (.invokevirtual 140, 3) := by decide +kernel
theorem dX7_runsIn_40 : decode cX7_runsIn 40 = .ok (.aload_n 0, 1) := by decide +kernel
theorem dX7_runsIn_41 : decode cX7_runsIn 41 = .ok (.iload_n 2, 1) := by decide +kernel
theorem dX7_runsIn_42 : decode cX7_runsIn 42 = .ok (.invokevirtual 116, 3) := by decide +kernel
theorem dX7_runsIn_45 : decode cX7_runsIn 45 = .ok (.aload_n 0, 1) := by decide +kernel
theorem dX7_runsIn_46 : decode cX7_runsIn 46 = .ok (.iload_n 3, 1) := by decide +kernel
theorem dX7_runsIn_47 : decode cX7_runsIn 47 = .ok (.invokevirtual 116, 3) := by decide +kernel
theorem dX7_runsIn_50 : decode cX7_runsIn 50 = .ok (.isub, 1) := by decide +kernel
theorem dX7_runsIn_51 : decode cX7_runsIn 51 = .ok (.imul, 1) := by decide +kernel
theorem dX7_runsIn_52 : decode cX7_runsIn 52 = .ok (.iconst 2, 1) := by decide +kernel
theorem dX7_runsIn_53 : decode cX7_runsIn 53 = .ok (.idiv, 1) := by decide +kernel
theorem dX7_runsIn_54 : decode cX7_runsIn 54 = .ok (.istore 4, 2) := by decide +kernel
theorem dX7_runsIn_56 : decode cX7_runsIn 56 = .ok (.aload_n 0, 1) := by decide +kernel
theorem dX7_runsIn_57 : decode cX7_runsIn 57 = .ok (.iload_n 3, 1) := by decide +kernel
theorem dX7_runsIn_58 : decode cX7_runsIn 58 = .ok (.iload 4, 2) := by decide +kernel
theorem dX7_runsIn_60 : decode cX7_runsIn 60 = .ok (.iconst 0, 1) := by decide +kernel
theorem dX7_runsIn_61 : decode cX7_runsIn 61 = .ok (.aload_n 0, 1) := by decide +kernel
theorem dX7_runsIn_62 : decode cX7_runsIn 62 = .ok (.iload_n 2, 1) := by decide +kernel
theorem dX7_runsIn_63 : decode cX7_runsIn 63 = .ok (.invokevirtual 96, 3) := by decide +kernel
theorem dX7_runsIn_66 : decode cX7_runsIn 66 = .ok (.invokestatic 103, 3) := by decide +kernel
theorem dX7_runsIn_69 : decode cX7_runsIn 69 = .ok (.invokevirtual 125, 3) := by decide +kernel
theorem dX7_runsIn_72 : decode cX7_runsIn 72 = .ok (.ireturn, 1) := by decide +kernel
theorem dX7_pipeOf_0 : decode cX7_pipeOf 0 = .ok (.aload_n 0, 1) := by decide +kernel
theorem dX7_pipeOf_1 : decode cX7_pipeOf 1 = .ok (.iload_n 1, 1) := by decide +kernel
theorem dX7_pipeOf_2 : decode cX7_pipeOf 2 = .ok (.invokevirtual 146, 3) := by decide +kernel
theorem dX7_pipeOf_5 : decode cX7_pipeOf 5 = .ok (.ifCond .eq 12, 3) := by decide +kernel
theorem dX7_pipeOf_8 : decode cX7_pipeOf 8 = .ok (.iload_n 2, 1) := by decide +kernel
theorem dX7_pipeOf_9 : decode cX7_pipeOf 9 = .ok (.iconst 0, 1) := by decide +kernel
theorem dX7_pipeOf_10 : decode cX7_pipeOf 10 = .ok (.iconst 4, 1) := by decide +kernel
theorem dX7_pipeOf_11 : decode cX7_pipeOf 11 = .ok (.invokestatic 82, 3) := by decide +kernel
theorem dX7_pipeOf_14 : decode cX7_pipeOf 14 = .ok (.ifCond .ne 6, 3) := by decide +kernel
theorem dX7_pipeOf_17 : decode cX7_pipeOf 17 = .ok (.ldc 86, 2) := by decide +kernel
theorem dX7_pipeOf_19 : decode cX7_pipeOf 19 = .ok (.ireturn, 1) := by decide +kernel
theorem dX7_pipeOf_20 : decode cX7_pipeOf 20 = .ok (.iload_n 2, 1) := by decide +kernel
theorem dX7_pipeOf_21 : decode cX7_pipeOf 21 = .ok (.iconst 4, 1) := by decide +kernel
theorem dX7_pipeOf_22 : decode cX7_pipeOf 22 = .ok (.if_icmp .ne 11, 3) := by decide +kernel
theorem dX7_pipeOf_25 : decode cX7_pipeOf 25 = .ok (.aload_n 0, 1) := by decide +kernel
theorem dX7_pipeOf_26 : decode cX7_pipeOf 26 = .ok (.iload_n 1, 1) := by decide +kernel
theorem dX7_pipeOf_27 : decode cX7_pipeOf 27 = .ok (.invokevirtual 149, 3) := by decide +kernel
theorem dX7_pipeOf_30 : decode cX7_pipeOf 30 = .ok (.goto 9, 3) := by decide +kernel
theorem dX7_pipeOf_33 : decode cX7_pipeOf 33 = .ok (.aload_n 0, 1) := by decide +kernel
theorem dX7_pipeOf_34 : decode cX7_pipeOf 34 = .ok (.iload_n 1, 1) := by decide +kernel
theorem dX7_pipeOf_35 : decode cX7_pipeOf 35 = .ok (.iload_n 2, 1) := by decide +kernel
theorem dX7_pipeOf_36 : decode cX7_pipeOf 36 = .ok (.invokevirtual 140, 3) := by decide +kernel
theorem dX7_pipeOf_39 : decode cX7_pipeOf 39 = .ok (.ireturn, 1) := by decide +kernel
theorem dX7_cork_0 : decode cX7_cork 0 = .ok (.aload_n 0, 1) := by decide +kernel
theorem dX7_cork_1 : decode cX7_cork 1 = .ok (.iload_n 1, 1) := by decide +kernel
theorem dX7_cork_2 : decode cX7_cork 2 = .ok (.invokevirtual 146, 3) := by decide +kernel
theorem dX7_cork_5 : decode cX7_cork 5 = .ok (.ifCond .eq 28, 3) := by decide +kernel
theorem dX7_cork_8 : decode cX7_cork 8 = .ok (.iload_n 2, 1) := by decide +kernel
theorem dX7_cork_9 : decode cX7_cork 9 = .ok (.iconst 0, 1) := by decide +kernel
theorem dX7_cork_10 : decode cX7_cork 10 = .ok (.iconst 1, 1) := by decide +kernel
theorem dX7_cork_11 : decode cX7_cork 11 = .ok (.invokestatic 82, 3) := by decide +kernel
theorem dX7_cork_14 : decode cX7_cork 14 = .ok (.ifCond .eq 19, 3) := by decide +kernel
theorem dX7_cork_17 : decode cX7_cork 17 = .ok (.aload_n 0, 1) := by decide +kernel
theorem dX7_cork_18 : decode cX7_cork 18 = .ok (.bipush 55, 2) := by decide +kernel
theorem dX7_cork_20 : decode cX7_cork 20 = .ok (.iconst 4, 1) := by decide +kernel
theorem dX7_cork_21 : decode cX7_cork 21 = .ok (.iload_n 1, 1) := by decide +kernel
theorem dX7_cork_22 : decode cX7_cork 22 = .ok (.imul, 1) := by decide +kernel
theorem dX7_cork_23 : decode cX7_cork 23 = .ok (.iadd, 1) := by decide +kernel
theorem dX7_cork_24 : decode cX7_cork 24 = .ok (.iconst 3, 1) := by decide +kernel
theorem dX7_cork_25 : decode cX7_cork 25 = .ok (.iadd, 1) := by decide +kernel
theorem dX7_cork_26 : decode cX7_cork 26 = .ok (.iload_n 2, 1) := by decide +kernel
theorem dX7_cork_27 : decode cX7_cork 27 = .ok (.invokevirtual 133, 3) := by decide +kernel
theorem dX7_cork_30 : decode cX7_cork 30 = .ok (.goto 5, 3) := by decide +kernel
theorem dX7_cork_33 : decode cX7_cork 33 = .ok (.ldc 86, 2) := by decide +kernel
theorem dX7_cork_35 : decode cX7_cork 35 = .ok (.ireturn, 1) := by decide +kernel
theorem dX7_thirst_0 : decode cX7_thirst 0 = .ok (.iload_n 1, 1) := by decide +kernel
theorem dX7_thirst_1 : decode cX7_thirst 1 = .ok (.iconst 0, 1) := by decide +kernel
theorem dX7_thirst_2 : decode cX7_thirst 2 = .ok (.bipush 100, 2) := by decide +kernel
theorem dX7_thirst_4 : decode cX7_thirst 4 = .ok (.invokestatic 82, 3) := by decide +kernel
theorem dX7_thirst_7 : decode cX7_thirst 7 = .ok (.ifCond .eq 12, 3) := by decide +kernel
theorem dX7_thirst_10 : decode cX7_thirst 10 = .ok (.aload_n 0, 1) := by decide +kernel
theorem dX7_thirst_11 : decode cX7_thirst 11 = .ok (.iconst 4, 1) := by decide +kernel
theorem dX7_thirst_12 : decode cX7_thirst 12 = .ok (.iload_n 1, 1) := by decide +kernel
theorem dX7_thirst_13 : decode cX7_thirst 13 = .ok (.invokevirtual 133, 3) := by decide +kernel
theorem dX7_thirst_16 : decode cX7_thirst 16 = .ok (.goto 5, 3) := by decide +kernel
theorem dX7_thirst_19 : decode cX7_thirst 19 = .ok (.ldc 86, 2) := by decide +kernel
theorem dX7_thirst_21 : decode cX7_thirst 21 = .ok (.ireturn, 1) := by decide +kernel
theorem dX7_draw_0 : decode cX7_draw 0 = .ok (.aload_n 0, 1) := by decide +kernel
theorem dX7_draw_1 : decode cX7_draw 1 = .ok (.getfield 9, 3) := by decide +kernel
theorem dX7_draw_4 : decode cX7_draw 4 = .ok (.iconst 0, 1) := by decide +kernel
theorem dX7_draw_5 : decode cX7_draw 5 = .ok (.aload_n 0, 1) := by decide +kernel
theorem dX7_draw_6 : decode cX7_draw 6 = .ok (.getfield 9, 3) := by decide +kernel
theorem dX7_draw_9 : decode cX7_draw 9 = .ok (.iconst 0, 1) := by decide +kernel
theorem dX7_draw_10 : decode cX7_draw 10 = .ok (.iaload, 1) := by decide +kernel
theorem dX7_draw_11 : decode cX7_draw 11 = .ok (.ldc 152, 2) := by decide +kernel
theorem dX7_draw_13 : decode cX7_draw 13 = .ok (.imul, 1) := by decide +kernel
theorem dX7_draw_14 : decode cX7_draw 14 = .ok (.sipush 12345, 3) := by decide +kernel
theorem dX7_draw_17 : decode cX7_draw 17 = .ok (.iadd, 1) := by decide +kernel
theorem dX7_draw_18 : decode cX7_draw 18 = .ok (.iastore, 1) := by decide +kernel
theorem dX7_draw_19 : decode cX7_draw 19 = .ok (.aload_n 0, 1) := by decide +kernel
theorem dX7_draw_20 : decode cX7_draw 20 = .ok (.getfield 9, 3) := by decide +kernel
theorem dX7_draw_23 : decode cX7_draw 23 = .ok (.iconst 0, 1) := by decide +kernel
theorem dX7_draw_24 : decode cX7_draw 24 = .ok (.iaload, 1) := by decide +kernel
theorem dX7_draw_25 : decode cX7_draw 25 = .ok (.bipush 8, 2) := by decide +kernel
theorem dX7_draw_27 : decode cX7_draw 27 = .ok (.iushr, 1) := by decide +kernel
theorem dX7_draw_28 : decode cX7_draw 28 = .ok (.ireturn, 1) := by decide +kernel
theorem dX7_deal_0 : decode cX7_deal 0 = .ok (.iload_n 1, 1) := by decide +kernel
theorem dX7_deal_1 : decode cX7_deal 1 = .ok (.iconst 1, 1) := by decide +kernel
theorem dX7_deal_2 : decode cX7_deal 2 = .ok (.bipush 8, 2) := by decide +kernel
theorem dX7_deal_4 : decode cX7_deal 4 = .ok (.invokestatic 82, 3) := by decide +kernel
theorem dX7_deal_7 : decode cX7_deal 7 = .ok (.ifCond .ne 6, 3) := by decide +kernel
theorem dX7_deal_10 : decode cX7_deal 10 = .ok (.ldc 86, 2) := by decide +kernel
theorem dX7_deal_12 : decode cX7_deal 12 = .ok (.ireturn, 1) := by decide +kernel
theorem dX7_deal_13 : decode cX7_deal 13 = .ok (.iconst 0, 1) := by decide +kernel
theorem dX7_deal_14 : decode cX7_deal 14 = .ok (.istore_n 2, 1) := by decide +kernel
theorem dX7_deal_15 : decode cX7_deal 15 = .ok (.iload_n 2, 1) := by decide +kernel
theorem dX7_deal_16 : decode cX7_deal 16 = .ok (.iload_n 1, 1) := by decide +kernel
theorem dX7_deal_17 : decode cX7_deal 17 = .ok (.if_icmp .ge 83, 3) := by decide +kernel
theorem dX7_deal_20 : decode cX7_deal 20 = .ok (.aload_n 0, 1) := by decide +kernel
theorem dX7_deal_21 : decode cX7_deal 21 = .ok (.getfield 9, 3) := by decide +kernel
theorem dX7_deal_24 : decode cX7_deal 24 = .ok (.iconst 1, 1) := by decide +kernel
theorem dX7_deal_25 : decode cX7_deal 25 = .ok (.iaload, 1) := by decide +kernel
theorem dX7_deal_26 : decode cX7_deal 26 = .ok (.bipush 8, 2) := by decide +kernel
theorem dX7_deal_28 : decode cX7_deal 28 = .ok (.if_icmp .ge 72, 3) := by decide +kernel
theorem dX7_deal_31 : decode cX7_deal 31 = .ok (.aload_n 0, 1) := by decide +kernel
theorem dX7_deal_32 : decode cX7_deal 32 = .ok (.invokevirtual 153, 3) := by decide +kernel
theorem dX7_deal_35 : decode cX7_deal 35 = .ok (.bipush 6, 2) := by decide +kernel
theorem dX7_deal_37 : decode cX7_deal 37 = .ok (.irem, 1) := by decide +kernel
theorem dX7_deal_38 : decode cX7_deal 38 = .ok (.istore_n 3, 1) := by decide +kernel
theorem dX7_deal_39 : decode cX7_deal 39 = .ok (.aload_n 0, 1) := by decide +kernel
theorem dX7_deal_40 : decode cX7_deal 40 = .ok (.invokevirtual 153, 3) := by decide +kernel
theorem dX7_deal_43 : decode cX7_deal 43 = .ok (.bipush 60, 2) := by decide +kernel
theorem dX7_deal_45 : decode cX7_deal 45 = .ok (.irem, 1) := by decide +kernel
theorem dX7_deal_46 : decode cX7_deal 46 = .ok (.istore 4, 2) := by decide +kernel
theorem dX7_deal_48 : decode cX7_deal 48 = .ok (.aload_n 0, 1) := by decide +kernel
theorem dX7_deal_49 : decode cX7_deal 49 = .ok (.iload_n 3, 1) := by decide +kernel
theorem dX7_deal_50 : decode cX7_deal 50 = .ok (.iload 4, 2) := by decide +kernel
theorem dX7_deal_52 : decode cX7_deal 52 = .ok (.iconst 1, 1) := by decide +kernel
theorem dX7_deal_53 : decode cX7_deal 53 = .ok (.aload_n 0, 1) := by decide +kernel
theorem dX7_deal_54 : decode cX7_deal 54 = .ok (.invokevirtual 153, 3) := by decide +kernel
theorem dX7_deal_57 : decode cX7_deal 57 = .ok (.bipush 60, 2) := by decide +kernel
theorem dX7_deal_59 : decode cX7_deal 59 = .ok (.irem, 1) := by decide +kernel
theorem dX7_deal_60 : decode cX7_deal 60 = .ok (.iadd, 1) := by decide +kernel
theorem dX7_deal_61 : decode cX7_deal 61 = .ok (.invokevirtual 88, 3) := by decide +kernel
theorem dX7_deal_64 : decode cX7_deal 64 = .ok (.istore 5, 2) := by decide +kernel
theorem dX7_deal_66 : decode cX7_deal 66 = .ok (.aload_n 0, 1) := by decide +kernel
theorem dX7_deal_67 : decode cX7_deal 67 = .ok (.getfield 9, 3) := by decide +kernel
theorem dX7_deal_70 : decode cX7_deal 70 = .ok (.bipush 7, 2) := by decide +kernel
theorem dX7_deal_72 : decode cX7_deal 72 = .ok (.bipush 6, 2) := by decide +kernel
theorem dX7_deal_74 : decode cX7_deal 74 = .ok (.iload 5, 2) := by decide +kernel
theorem dX7_deal_76 : decode cX7_deal 76 = .ok (.imul, 1) := by decide +kernel
theorem dX7_deal_77 : decode cX7_deal 77 = .ok (.iadd, 1) := by decide +kernel
theorem dX7_deal_78 : decode cX7_deal 78 = .ok (.iconst 3, 1) := by decide +kernel
theorem dX7_deal_79 : decode cX7_deal 79 = .ok (.iadd, 1) := by decide +kernel
theorem dX7_deal_80 : decode cX7_deal 80 = .ok (.iload 5, 2) := by decide +kernel
theorem dX7_deal_82 : decode cX7_deal 82 = .ok (.iconst 3, 1) := by decide +kernel
theorem dX7_deal_83 : decode cX7_deal 83 = .ok (.irem, 1) := by decide +kernel
theorem dX7_deal_84 : decode cX7_deal 84 = .ok (.iadd, 1) := by decide +kernel
theorem dX7_deal_85 : decode cX7_deal 85 = .ok (.aload_n 0, 1) := by decide +kernel
theorem dX7_deal_86 : decode cX7_deal 86 = .ok (.invokevirtual 153, 3) := by decide +kernel
theorem dX7_deal_89 : decode cX7_deal 89 = .ok (.sipush 300, 3) := by decide +kernel
theorem dX7_deal_92 : decode cX7_deal 92 = .ok (.irem, 1) := by decide +kernel
theorem dX7_deal_93 : decode cX7_deal 93 = .ok (.iastore, 1) := by decide +kernel
theorem dX7_deal_94 : decode cX7_deal 94 = .ok (.iinc 2 1, 3) := by decide +kernel
theorem dX7_deal_97 : decode cX7_deal 97 = .ok (.goto (-82), 3) := by decide +kernel
theorem dX7_deal_100 : decode cX7_deal 100 = .ok (.iload_n 2, 1) := by decide +kernel
theorem dX7_deal_101 : decode cX7_deal 101 = .ok (.ireturn, 1) := by decide +kernel
theorem dX7_seed_0 : decode cX7_seed 0 = .ok (.aload_n 0, 1) := by decide +kernel
theorem dX7_seed_1 : decode cX7_seed 1 = .ok (.iconst 0, 1) := by decide +kernel
theorem dX7_seed_2 : decode cX7_seed 2 = .ok (.iload_n 1, 1) := by decide +kernel
theorem dX7_seed_3 : decode cX7_seed 3 = .ok (.invokevirtual 133, 3) := by decide +kernel
theorem dX7_seed_6 : decode cX7_seed 6 = .ok (.ireturn, 1) := by decide +kernel
theorem dX7_drains_0 : decode cX7_drains 0 = .ok (.aload_n 0, 1) := by decide +kernel
theorem dX7_drains_1 : decode cX7_drains 1 = .ok (.iload_n 1, 1) := by decide +kernel
theorem dX7_drains_2 : decode cX7_drains 2 = .ok (.invokevirtual 96, 3) := by decide +kernel
theorem dX7_drains_5 : decode cX7_drains 5 = .ok (.istore_n 3, 1) := by decide +kernel
theorem dX7_drains_6 : decode cX7_drains 6 = .ok (.iload_n 2, 1) := by decide +kernel
theorem dX7_drains_7 : decode cX7_drains 7 = .ok (.istore 4, 2) := by decide +kernel
theorem dX7_drains_9 : decode cX7_drains 9 = .ok (.iconst 0, 1) := by decide +kernel
theorem dX7_drains_10 : decode cX7_drains 10 = .ok (.istore 5, 2) := by decide +kernel
theorem dX7_drains_12 : decode cX7_drains 12 = .ok (.iload 5, 2) := by decide +kernel
theorem dX7_drains_14 : decode cX7_drains 14 = .ok (.iconst 3, 1) := by decide +kernel
theorem dX7_drains_15 : decode cX7_drains 15 = .ok (.if_icmp .ge 53, 3) := by decide +kernel
theorem dX7_drains_18 : decode cX7_drains 18 = .ok (.aload_n 0, 1) := by decide +kernel
theorem dX7_drains_19 : decode cX7_drains 19 = .ok (.getfield 19, 3) := by decide +kernel
theorem dX7_drains_22 : decode cX7_drains 22 = .ok (.iload 5, 2) := by decide +kernel
theorem dX7_drains_24 : decode cX7_drains 24 = .ok (.iload_n 3, 1) := by decide +kernel
theorem dX7_drains_25 : decode cX7_drains 25 = .ok (.ifCond .ne 7, 3) := by decide +kernel
theorem dX7_drains_28 : decode cX7_drains 28 = .ok (.iconst 0, 1) := by decide +kernel
theorem dX7_drains_29 : decode cX7_drains 29 = .ok (.goto 20, 3) := by decide +kernel
theorem dX7_drains_32 : decode cX7_drains 32 = .ok (.aload_n 0, 1) := by decide +kernel
theorem dX7_drains_33 : decode cX7_drains 33 = .ok (.iload_n 1, 1) := by decide +kernel
theorem dX7_drains_34 : decode cX7_drains 34 = .ok (.iconst 3, 1) := by decide +kernel
theorem dX7_drains_35 : decode cX7_drains 35 = .ok (.iload 5, 2) := by decide +kernel
theorem dX7_drains_37 : decode cX7_drains 37 = .ok (.iadd, 1) := by decide +kernel
theorem dX7_drains_38 : decode cX7_drains 38 = .ok (.invokevirtual 92, 3) := by decide +kernel
theorem dX7_drains_41 : decode cX7_drains 41 = .ok (.i2l, 1) := by decide +kernel
theorem dX7_drains_42 : decode cX7_drains 42 = .ok (.iload_n 2, 1) := by decide +kernel
theorem dX7_drains_43 : decode cX7_drains 43 = .ok (.i2l, 1) := by decide +kernel
theorem dX7_drains_44 : decode cX7_drains 44 = .ok (.lmul, 1) := by decide +kernel
theorem dX7_drains_45 : decode cX7_drains 45 = .ok (.iload_n 3, 1) := by decide +kernel
theorem dX7_drains_46 : decode cX7_drains 46 = .ok (.i2l, 1) := by decide +kernel
theorem dX7_drains_47 : decode cX7_drains 47 = .ok (.ldiv, 1) := by decide +kernel
theorem dX7_drains_48 : decode cX7_drains 48 = .ok (.l2i, 1) := by decide +kernel
theorem dX7_drains_49 : decode cX7_drains 49 = .ok (.iastore, 1) := by decide +kernel
theorem dX7_drains_50 : decode cX7_drains 50 = .ok (.iload 4, 2) := by decide +kernel
theorem dX7_drains_52 : decode cX7_drains 52 = .ok (.aload_n 0, 1) := by decide +kernel
theorem dX7_drains_53 : decode cX7_drains 53 = .ok (.getfield 19, 3) := by decide +kernel
theorem dX7_drains_56 : decode cX7_drains 56 = .ok (.iload 5, 2) := by decide +kernel
theorem dX7_drains_58 : decode cX7_drains 58 = .ok (.iaload, 1) := by decide +kernel
theorem dX7_drains_59 : decode cX7_drains 59 = .ok (.isub, 1) := by decide +kernel
theorem dX7_drains_60 : decode cX7_drains 60 = .ok (.istore 4, 2) := by decide +kernel
theorem dX7_drains_62 : decode cX7_drains 62 = .ok (.iinc 5 1, 3) := by decide +kernel
theorem dX7_drains_65 : decode cX7_drains 65 = .ok (.goto (-53), 3) := by decide +kernel
theorem dX7_drains_68 : decode cX7_drains 68 = .ok (.iconst 0, 1) := by decide +kernel
theorem dX7_drains_69 : decode cX7_drains 69 = .ok (.istore 5, 2) := by decide +kernel
theorem dX7_drains_71 : decode cX7_drains 71 = .ok (.iload 5, 2) := by decide +kernel
theorem dX7_drains_73 : decode cX7_drains 73 = .ok (.iconst 3, 1) := by decide +kernel
theorem dX7_drains_74 : decode cX7_drains 74 = .ok (.if_icmp .ge 90, 3) := by decide +kernel
theorem dX7_drains_77 : decode cX7_drains 77 = .ok (.aload_n 0, 1) := by decide +kernel
theorem dX7_drains_78 : decode cX7_drains 78 = .ok (.iload_n 1, 1) := by decide +kernel
theorem dX7_drains_79 : decode cX7_drains 79 = .ok (.iconst 3, 1) := by decide +kernel
theorem dX7_drains_80 : decode cX7_drains 80 = .ok (.iload 5, 2) := by decide +kernel
theorem dX7_drains_82 : decode cX7_drains 82 = .ok (.iadd, 1) := by decide +kernel
theorem dX7_drains_83 : decode cX7_drains 83 = .ok (.invokevirtual 92, 3) := by decide +kernel
theorem dX7_drains_86 : decode cX7_drains 86 = .ok (.aload_n 0, 1) := by decide +kernel
theorem dX7_drains_87 : decode cX7_drains 87 = .ok (.getfield 19, 3) := by decide +kernel
theorem dX7_drains_90 : decode cX7_drains 90 = .ok (.iload 5, 2) := by decide +kernel
theorem dX7_drains_92 : decode cX7_drains 92 = .ok (.iaload, 1) := by decide +kernel
theorem dX7_drains_93 : decode cX7_drains 93 = .ok (.isub, 1) := by decide +kernel
theorem dX7_drains_94 : decode cX7_drains 94 = .ok (.istore 6, 2) := by decide +kernel
theorem dX7_drains_96 : decode cX7_drains 96 = .ok (.iload 4, 2) := by decide +kernel
theorem dX7_drains_98 : decode cX7_drains 98 = .ok (.iload 6, 2) := by decide +kernel
theorem dX7_drains_100 : decode cX7_drains 100 = .ok (.if_icmp .ge 8, 3) := by decide +kernel
theorem dX7_drains_103 : decode cX7_drains 103 = .ok (.iload 4, 2) := by decide +kernel
theorem dX7_drains_105 : decode cX7_drains 105 = .ok (.goto 5, 3) := by decide +kernel
theorem dX7_drains_108 : decode cX7_drains 108 = .ok (.iload 6, 2) := by decide +kernel
theorem dX7_drains_110 : decode cX7_drains 110 = .ok (.istore 7, 2) := by decide +kernel
theorem dX7_drains_112 : decode cX7_drains 112 = .ok (.aload_n 0, 1) := by decide +kernel
theorem dX7_drains_113 : decode cX7_drains 113 = .ok (.getfield 19, 3) := by decide +kernel
theorem dX7_drains_116 : decode cX7_drains 116 = .ok (.iload 5, 2) := by decide +kernel
theorem dX7_drains_118 : decode cX7_drains 118 = .ok (.dup2, 1) := by decide +kernel
theorem dX7_drains_119 : decode cX7_drains 119 = .ok (.iaload, 1) := by decide +kernel
theorem dX7_drains_120 : decode cX7_drains 120 = .ok (.iload 7, 2) := by decide +kernel
theorem dX7_drains_122 : decode cX7_drains 122 = .ok (.iadd, 1) := by decide +kernel
theorem dX7_drains_123 : decode cX7_drains 123 = .ok (.iastore, 1) := by decide +kernel
theorem dX7_drains_124 : decode cX7_drains 124 = .ok (.iload 4, 2) := by decide +kernel
theorem dX7_drains_126 : decode cX7_drains 126 = .ok (.iload 7, 2) := by decide +kernel
theorem dX7_drains_128 : decode cX7_drains 128 = .ok (.isub, 1) := by decide +kernel
theorem dX7_drains_129 : decode cX7_drains 129 = .ok (.istore 4, 2) := by decide +kernel
theorem dX7_drains_131 : decode cX7_drains 131 = .ok (.aload_n 0, 1) := by decide +kernel
theorem dX7_drains_132 : decode cX7_drains 132 = .ok (.getfield 9, 3) := by decide +kernel
theorem dX7_drains_135 : decode cX7_drains 135 = .ok (.bipush 7, 2) := by decide +kernel
theorem dX7_drains_137 : decode cX7_drains 137 = .ok (.bipush 6, 2) := by decide +kernel
theorem dX7_drains_139 : decode cX7_drains 139 = .ok (.iload_n 1, 1) := by decide +kernel
theorem dX7_drains_140 : decode cX7_drains 140 = .ok (.imul, 1) := by decide +kernel
theorem dX7_drains_141 : decode cX7_drains 141 = .ok (.iadd, 1) := by decide +kernel
theorem dX7_drains_142 : decode cX7_drains 142 = .ok (.iconst 3, 1) := by decide +kernel
theorem dX7_drains_143 : decode cX7_drains 143 = .ok (.iadd, 1) := by decide +kernel
theorem dX7_drains_144 : decode cX7_drains 144 = .ok (.iload 5, 2) := by decide +kernel
theorem dX7_drains_146 : decode cX7_drains 146 = .ok (.iadd, 1) := by decide +kernel
theorem dX7_drains_147 : decode cX7_drains 147 = .ok (.dup2, 1) := by decide +kernel
theorem dX7_drains_148 : decode cX7_drains 148 = .ok (.iaload, 1) := by decide +kernel
theorem dX7_drains_149 : decode cX7_drains 149 = .ok (.aload_n 0, 1) := by decide +kernel
theorem dX7_drains_150 : decode cX7_drains 150 = .ok (.getfield 19, 3) := by decide +kernel
theorem dX7_drains_153 : decode cX7_drains 153 = .ok (.iload 5, 2) := by decide +kernel
theorem dX7_drains_155 : decode cX7_drains 155 = .ok (.iaload, 1) := by decide +kernel
theorem dX7_drains_156 : decode cX7_drains 156 = .ok (.isub, 1) := by decide +kernel
theorem dX7_drains_157 : decode cX7_drains 157 = .ok (.iastore, 1) := by decide +kernel
theorem dX7_drains_158 : decode cX7_drains 158 = .ok (.iinc 5 1, 3) := by decide +kernel
theorem dX7_drains_161 : decode cX7_drains 161 = .ok (.goto (-90), 3) := by decide +kernel
theorem dX7_drains_164 : decode cX7_drains 164 = .ok (.return_, 1) := by decide +kernel
theorem dX7_flows_0 : decode cX7_flows 0 = .ok (.aload_n 0, 1) := by decide +kernel
theorem dX7_flows_1 : decode cX7_flows 1 = .ok (.iload_n 1, 1) := by decide +kernel
theorem dX7_flows_2 : decode cX7_flows 2 = .ok (.invokevirtual 149, 3) := by decide +kernel
theorem dX7_flows_5 : decode cX7_flows 5 = .ok (.istore_n 2, 1) := by decide +kernel
theorem dX7_flows_6 : decode cX7_flows 6 = .ok (.iload_n 2, 1) := by decide +kernel
theorem dX7_flows_7 : decode cX7_flows 7 = .ok (.ifCond .le 75, 3) := by decide +kernel
theorem dX7_flows_10 : decode cX7_flows 10 = .ok (.aload_n 0, 1) := by decide +kernel
theorem dX7_flows_11 : decode cX7_flows 11 = .ok (.iload_n 1, 1) := by decide +kernel
theorem dX7_flows_12 : decode cX7_flows 12 = .ok (.invokevirtual 143, 3) := by decide +kernel
theorem dX7_flows_15 : decode cX7_flows 15 = .ok (.istore_n 3, 1) := by decide +kernel
theorem dX7_flows_16 : decode cX7_flows 16 = .ok (.aload_n 0, 1) := by decide +kernel
theorem dX7_flows_17 : decode cX7_flows 17 = .ok (.iload_n 1, 1) := by decide +kernel
theorem dX7_flows_18 : decode cX7_flows 18 = .ok (.iconst 0, 1) := by decide +kernel
theorem dX7_flows_19 : decode cX7_flows 19 = .ok (.invokevirtual 140, 3) := by decide +kernel
theorem dX7_flows_22 : decode cX7_flows 22 = .ok (.aload_n 0, 1) := by decide +kernel
theorem dX7_flows_23 : decode cX7_flows 23 = .ok (.iload_n 1, 1) := by decide +kernel
theorem dX7_flows_24 : decode cX7_flows 24 = .ok (.iconst 1, 1) := by decide +kernel
theorem dX7_flows_25 : decode cX7_flows 25 = .ok (.invokevirtual 140, 3) := by decide +kernel
theorem dX7_flows_28 : decode cX7_flows 28 = .ok (.iadd, 1) := by decide +kernel
theorem dX7_flows_29 : decode cX7_flows 29 = .ok (.iload_n 3, 1) := by decide +kernel
theorem dX7_flows_30 : decode cX7_flows 30 = .ok (.isub, 1) := by decide +kernel
theorem dX7_flows_31 : decode cX7_flows 31 = .ok (.istore 4, 2) := by decide +kernel
theorem dX7_flows_33 : decode cX7_flows 33 = .ok (.aload_n 0, 1) := by decide +kernel
theorem dX7_flows_34 : decode cX7_flows 34 = .ok (.iload_n 3, 1) := by decide +kernel
theorem dX7_flows_35 : decode cX7_flows 35 = .ok (.iload_n 2, 1) := by decide +kernel
theorem dX7_flows_36 : decode cX7_flows 36 = .ok (.invokevirtual 157, 3) := by decide +kernel
theorem dX7_flows_39 : decode cX7_flows 39 = .ok (.iconst 0, 1) := by decide +kernel
theorem dX7_flows_40 : decode cX7_flows 40 = .ok (.istore 5, 2) := by decide +kernel
theorem dX7_flows_42 : decode cX7_flows 42 = .ok (.iload 5, 2) := by decide +kernel
theorem dX7_flows_44 : decode cX7_flows 44 = .ok (.iconst 3, 1) := by decide +kernel
theorem dX7_flows_45 : decode cX7_flows 45 = .ok (.if_icmp .ge 37, 3) := by decide +kernel
theorem dX7_flows_48 : decode cX7_flows 48 = .ok (.aload_n 0, 1) := by decide +kernel
theorem dX7_flows_49 : decode cX7_flows 49 = .ok (.getfield 9, 3) := by decide +kernel
theorem dX7_flows_52 : decode cX7_flows 52 = .ok (.bipush 7, 2) := by decide +kernel
theorem dX7_flows_54 : decode cX7_flows 54 = .ok (.bipush 6, 2) := by decide +kernel
theorem dX7_flows_56 : decode cX7_flows 56 = .ok (.iload 4, 2) := by decide +kernel
theorem dX7_flows_58 : decode cX7_flows 58 = .ok (.imul, 1) := by decide +kernel
theorem dX7_flows_59 : decode cX7_flows 59 = .ok (.iadd, 1) := by decide +kernel
theorem dX7_flows_60 : decode cX7_flows 60 = .ok (.iconst 3, 1) := by decide +kernel
theorem dX7_flows_61 : decode cX7_flows 61 = .ok (.iadd, 1) := by decide +kernel
theorem dX7_flows_62 : decode cX7_flows 62 = .ok (.iload 5, 2) := by decide +kernel
theorem dX7_flows_64 : decode cX7_flows 64 = .ok (.iadd, 1) := by decide +kernel
theorem dX7_flows_65 : decode cX7_flows 65 = .ok (.dup2, 1) := by decide +kernel
theorem dX7_flows_66 : decode cX7_flows 66 = .ok (.iaload, 1) := by decide +kernel
theorem dX7_flows_67 : decode cX7_flows 67 = .ok (.aload_n 0, 1) := by decide +kernel
theorem dX7_flows_68 : decode cX7_flows 68 = .ok (.getfield 19, 3) := by decide +kernel
theorem dX7_flows_71 : decode cX7_flows 71 = .ok (.iload 5, 2) := by decide +kernel
theorem dX7_flows_73 : decode cX7_flows 73 = .ok (.iaload, 1) := by decide +kernel
theorem dX7_flows_74 : decode cX7_flows 74 = .ok (.iadd, 1) := by decide +kernel
theorem dX7_flows_75 : decode cX7_flows 75 = .ok (.iastore, 1) := by decide +kernel
theorem dX7_flows_76 : decode cX7_flows 76 = .ok (.iinc 5 1, 3) := by decide +kernel
theorem dX7_flows_79 : decode cX7_flows 79 = .ok (.goto (-37), 3) := by decide +kernel
theorem dX7_flows_82 : decode cX7_flows 82 = .ok (.return_, 1) := by decide +kernel
theorem dX7_spills_0 : decode cX7_spills 0 = .ok (.aload_n 0, 1) := by decide +kernel
theorem dX7_spills_1 : decode cX7_spills 1 = .ok (.iload_n 1, 1) := by decide +kernel
theorem dX7_spills_2 : decode cX7_spills 2 = .ok (.iload_n 2, 1) := by decide +kernel
theorem dX7_spills_3 : decode cX7_spills 3 = .ok (.invokevirtual 157, 3) := by decide +kernel
theorem dX7_spills_6 : decode cX7_spills 6 = .ok (.aload_n 0, 1) := by decide +kernel
theorem dX7_spills_7 : decode cX7_spills 7 = .ok (.getfield 9, 3) := by decide +kernel
theorem dX7_spills_10 : decode cX7_spills 10 = .ok (.iconst 5, 1) := by decide +kernel
theorem dX7_spills_11 : decode cX7_spills 11 = .ok (.dup2, 1) := by decide +kernel
theorem dX7_spills_12 : decode cX7_spills 12 = .ok (.iaload, 1) := by decide +kernel
theorem dX7_spills_13 : decode cX7_spills 13 = .ok (.iload_n 2, 1) := by decide +kernel
theorem dX7_spills_14 : decode cX7_spills 14 = .ok (.iadd, 1) := by decide +kernel
theorem dX7_spills_15 : decode cX7_spills 15 = .ok (.iastore, 1) := by decide +kernel
theorem dX7_spills_16 : decode cX7_spills 16 = .ok (.return_, 1) := by decide +kernel
theorem dX7_hour_0 : decode cX7_hour 0 = .ok (.iconst 0, 1) := by decide +kernel
theorem dX7_hour_1 : decode cX7_hour 1 = .ok (.istore_n 1, 1) := by decide +kernel
theorem dX7_hour_2 : decode cX7_hour 2 = .ok (.iload_n 1, 1) := by decide +kernel
theorem dX7_hour_3 : decode cX7_hour 3 = .ok (.aload_n 0, 1) := by decide +kernel
theorem dX7_hour_4 : decode cX7_hour 4 = .ok (.getfield 9, 3) := by decide +kernel
theorem dX7_hour_7 : decode cX7_hour 7 = .ok (.iconst 2, 1) := by decide +kernel
theorem dX7_hour_8 : decode cX7_hour 8 = .ok (.iaload, 1) := by decide +kernel
theorem dX7_hour_9 : decode cX7_hour 9 = .ok (.if_icmp .ge 14, 3) := by decide +kernel
theorem dX7_hour_12 : decode cX7_hour 12 = .ok (.aload_n 0, 1) := by decide +kernel
theorem dX7_hour_13 : decode cX7_hour 13 = .ok (.iload_n 1, 1) := by decide +kernel
theorem dX7_hour_14 : decode cX7_hour 14 = .ok (.invokevirtual 161, 3) := by decide +kernel
theorem dX7_hour_17 : decode cX7_hour 17 = .ok (.iinc 1 1, 3) := by decide +kernel
theorem dX7_hour_20 : decode cX7_hour 20 = .ok (.goto (-18), 3) := by decide +kernel
theorem dX7_hour_23 : decode cX7_hour 23 = .ok (.iconst 0, 1) := by decide +kernel
theorem dX7_hour_24 : decode cX7_hour 24 = .ok (.istore_n 1, 1) := by decide +kernel
theorem dX7_hour_25 : decode cX7_hour 25 = .ok (.iload_n 1, 1) := by decide +kernel
theorem dX7_hour_26 : decode cX7_hour 26 = .ok (.aload_n 0, 1) := by decide +kernel
theorem dX7_hour_27 : decode cX7_hour 27 = .ok (.getfield 9, 3) := by decide +kernel
theorem dX7_hour_30 : decode cX7_hour 30 = .ok (.iconst 1, 1) := by decide +kernel
theorem dX7_hour_31 : decode cX7_hour 31 = .ok (.iaload, 1) := by decide +kernel
theorem dX7_hour_32 : decode cX7_hour 32 = .ok (.if_icmp .ge 19, 3) := by decide +kernel
theorem dX7_hour_35 : decode cX7_hour 35 = .ok (.aload_n 0, 1) := by decide +kernel
theorem dX7_hour_36 : decode cX7_hour 36 = .ok (.iload_n 1, 1) := by decide +kernel
theorem dX7_hour_37 : decode cX7_hour 37 = .ok (.aload_n 0, 1) := by decide +kernel
theorem dX7_hour_38 : decode cX7_hour 38 = .ok (.iload_n 1, 1) := by decide +kernel
theorem dX7_hour_39 : decode cX7_hour 39 = .ok (.invokevirtual 119, 3) := by decide +kernel
theorem dX7_hour_42 : decode cX7_hour 42 = .ok (.invokevirtual 165, 3) := by decide +kernel
theorem dX7_hour_45 : decode cX7_hour 45 = .ok (.iinc 1 1, 3) := by decide +kernel
theorem dX7_hour_48 : decode cX7_hour 48 = .ok (.goto (-23), 3) := by decide +kernel
theorem dX7_hour_51 : decode cX7_hour 51 = .ok (.iconst 0, 1) := by decide +kernel
theorem dX7_hour_52 : decode cX7_hour 52 = .ok (.istore_n 1, 1) := by decide +kernel
theorem dX7_hour_53 : decode cX7_hour 53 = .ok (.iload_n 1, 1) := by decide +kernel
theorem dX7_hour_54 : decode cX7_hour 54 = .ok (.aload_n 0, 1) := by decide +kernel
theorem dX7_hour_55 : decode cX7_hour 55 = .ok (.getfield 9, 3) := by decide +kernel
theorem dX7_hour_58 : decode cX7_hour 58 = .ok (.iconst 1, 1) := by decide +kernel
theorem dX7_hour_59 : decode cX7_hour 59 = .ok (.iaload, 1) := by decide +kernel
theorem dX7_hour_60 : decode cX7_hour 60 = .ok (.if_icmp .ge 46, 3) := by decide +kernel
theorem dX7_hour_63 : decode cX7_hour 63 = .ok (.aload_n 0, 1) := by decide +kernel
theorem dX7_hour_64 : decode cX7_hour 64 = .ok (.iload_n 1, 1) := by decide +kernel
theorem dX7_hour_65 : decode cX7_hour 65 = .ok (.invokevirtual 109, 3) := by decide +kernel
theorem dX7_hour_68 : decode cX7_hour 68 = .ok (.aload_n 0, 1) := by decide +kernel
theorem dX7_hour_69 : decode cX7_hour 69 = .ok (.iload_n 1, 1) := by decide +kernel
theorem dX7_hour_70 : decode cX7_hour 70 = .ok (.iconst 2, 1) := by decide +kernel
theorem dX7_hour_71 : decode cX7_hour 71 = .ok (.invokevirtual 92, 3) := by decide +kernel
theorem dX7_hour_74 : decode cX7_hour 74 = .ok (.if_icmp .le 26, 3) := by decide +kernel
theorem dX7_hour_77 : decode cX7_hour 77 = .ok (.aload_n 0, 1) := by decide +kernel
theorem dX7_hour_78 : decode cX7_hour 78 = .ok (.iload_n 1, 1) := by decide +kernel
theorem dX7_hour_79 : decode cX7_hour 79 = .ok (.aload_n 0, 1) := by decide +kernel
theorem dX7_hour_80 : decode cX7_hour 80 = .ok (.iload_n 1, 1) := by decide +kernel
theorem dX7_hour_81 : decode cX7_hour 81 = .ok (.invokevirtual 96, 3) := by decide +kernel
theorem dX7_hour_84 : decode cX7_hour 84 = .ok (.iconst 4, 1) := by decide +kernel
theorem dX7_hour_85 : decode cX7_hour 85 = .ok (.idiv, 1) := by decide +kernel
theorem dX7_hour_86 : decode cX7_hour 86 = .ok (.iconst 1, 1) := by decide +kernel
theorem dX7_hour_87 : decode cX7_hour 87 = .ok (.iadd, 1) := by decide +kernel
theorem dX7_hour_88 : decode cX7_hour 88 = .ok (.iconst 0, 1) := by decide +kernel
theorem dX7_hour_89 : decode cX7_hour 89 = .ok (.aload_n 0, 1) := by decide +kernel
theorem dX7_hour_90 : decode cX7_hour 90 = .ok (.iload_n 1, 1) := by decide +kernel
theorem dX7_hour_91 : decode cX7_hour 91 = .ok (.invokevirtual 96, 3) := by decide +kernel
theorem dX7_hour_94 : decode cX7_hour 94 = .ok (.invokestatic 103, 3) := by decide +kernel
theorem dX7_hour_97 : decode cX7_hour 97 = .ok (.invokevirtual 165, 3) := by decide +kernel
theorem dX7_hour_100 : decode cX7_hour 100 = .ok (.iinc 1 1, 3) := by decide +kernel
theorem dX7_hour_103 : decode cX7_hour 103 = .ok (.goto (-50), 3) := by decide +kernel
theorem dX7_hour_106 : decode cX7_hour 106 = .ok (.aload_n 0, 1) := by decide +kernel
theorem dX7_hour_107 : decode cX7_hour 107 = .ok (.invokevirtual 153, 3) := by decide +kernel
theorem dX7_hour_110 : decode cX7_hour 110 = .ok (.bipush 100, 2) := by decide +kernel
theorem dX7_hour_112 : decode cX7_hour 112 = .ok (.irem, 1) := by decide +kernel
theorem dX7_hour_113 : decode cX7_hour 113 = .ok (.aload_n 0, 1) := by decide +kernel
theorem dX7_hour_114 : decode cX7_hour 114 = .ok (.getfield 9, 3) := by decide +kernel
theorem dX7_hour_117 : decode cX7_hour 117 = .ok (.iconst 4, 1) := by decide +kernel
theorem dX7_hour_118 : decode cX7_hour 118 = .ok (.iaload, 1) := by decide +kernel
theorem dX7_hour_119 : decode cX7_hour 119 = .ok (.if_icmp .ge 7, 3) := by decide +kernel
theorem dX7_hour_122 : decode cX7_hour 122 = .ok (.iconst 1, 1) := by decide +kernel
theorem dX7_hour_123 : decode cX7_hour 123 = .ok (.goto 4, 3) := by decide +kernel
theorem dX7_hour_126 : decode cX7_hour 126 = .ok (.iconst 0, 1) := by decide +kernel
theorem dX7_hour_127 : decode cX7_hour 127 = .ok (.istore_n 1, 1) := by decide +kernel
theorem dX7_hour_128 : decode cX7_hour 128 = .ok (.iload_n 1, 1) := by decide +kernel
theorem dX7_hour_129 : decode cX7_hour 129 = .ok (.ifCond .eq 39, 3) := by decide +kernel
theorem dX7_hour_132 : decode cX7_hour 132 = .ok (.aload_n 0, 1) := by decide +kernel
theorem dX7_hour_133 : decode cX7_hour 133 = .ok (.getfield 9, 3) := by decide +kernel
theorem dX7_hour_136 : decode cX7_hour 136 = .ok (.iconst 1, 1) := by decide +kernel
theorem dX7_hour_137 : decode cX7_hour 137 = .ok (.iaload, 1) := by decide +kernel
theorem dX7_hour_138 : decode cX7_hour 138 = .ok (.ifCond .le 30, 3) := by decide +kernel
theorem dX7_hour_141 : decode cX7_hour 141 = .ok (.aload_n 0, 1) := by decide +kernel
theorem dX7_hour_142 : decode cX7_hour 142 = .ok (.invokevirtual 153, 3) := by decide +kernel
theorem dX7_hour_145 : decode cX7_hour 145 = .ok (.aload_n 0, 1) := by decide +kernel
theorem dX7_hour_146 : decode cX7_hour 146 = .ok (.getfield 9, 3) := by decide +kernel
theorem dX7_hour_149 : decode cX7_hour 149 = .ok (.iconst 1, 1) := by decide +kernel
theorem dX7_hour_150 : decode cX7_hour 150 = .ok (.iaload, 1) := by decide +kernel
theorem dX7_hour_151 : decode cX7_hour 151 = .ok (.irem, 1) := by decide +kernel
theorem dX7_hour_152 : decode cX7_hour 152 = .ok (.istore_n 2, 1) := by decide +kernel
theorem dX7_hour_153 : decode cX7_hour 153 = .ok (.aload_n 0, 1) := by decide +kernel
theorem dX7_hour_154 : decode cX7_hour 154 = .ok (.iload_n 2, 1) := by decide +kernel
theorem dX7_hour_155 : decode cX7_hour 155 = .ok (.iconst 5, 1) := by decide +kernel
theorem dX7_hour_156 : decode cX7_hour 156 = .ok (.iconst 0, 1) := by decide +kernel
theorem dX7_hour_157 : decode cX7_hour 157 = .ok (.aload_n 0, 1) := by decide +kernel
theorem dX7_hour_158 : decode cX7_hour 158 = .ok (.iload_n 2, 1) := by decide +kernel
theorem dX7_hour_159 : decode cX7_hour 159 = .ok (.invokevirtual 96, 3) := by decide +kernel
theorem dX7_hour_162 : decode cX7_hour 162 = .ok (.invokestatic 103, 3) := by decide +kernel
theorem dX7_hour_165 : decode cX7_hour 165 = .ok (.invokevirtual 157, 3) := by decide +kernel
theorem dX7_hour_168 : decode cX7_hour 168 = .ok (.aload_n 0, 1) := by decide +kernel
theorem dX7_hour_169 : decode cX7_hour 169 = .ok (.getfield 9, 3) := by decide +kernel
theorem dX7_hour_172 : decode cX7_hour 172 = .ok (.iconst 3, 1) := by decide +kernel
theorem dX7_hour_173 : decode cX7_hour 173 = .ok (.dup2, 1) := by decide +kernel
theorem dX7_hour_174 : decode cX7_hour 174 = .ok (.iaload, 1) := by decide +kernel
theorem dX7_hour_175 : decode cX7_hour 175 = .ok (.iconst 1, 1) := by decide +kernel
theorem dX7_hour_176 : decode cX7_hour 176 = .ok (.iadd, 1) := by decide +kernel
theorem dX7_hour_177 : decode cX7_hour 177 = .ok (.iastore, 1) := by decide +kernel
theorem dX7_hour_178 : decode cX7_hour 178 = .ok (.return_, 1) := by decide +kernel
theorem dX7_goesOn_0 : decode cX7_goesOn 0 = .ok (.iconst 0, 1) := by decide +kernel
theorem dX7_goesOn_1 : decode cX7_goesOn 1 = .ok (.istore_n 2, 1) := by decide +kernel
theorem dX7_goesOn_2 : decode cX7_goesOn 2 = .ok (.iload_n 2, 1) := by decide +kernel
theorem dX7_goesOn_3 : decode cX7_goesOn 3 = .ok (.iload_n 1, 1) := by decide +kernel
theorem dX7_goesOn_4 : decode cX7_goesOn 4 = .ok (.if_icmp .ge 13, 3) := by decide +kernel
theorem dX7_goesOn_7 : decode cX7_goesOn 7 = .ok (.aload_n 0, 1) := by decide +kernel
theorem dX7_goesOn_8 : decode cX7_goesOn 8 = .ok (.invokevirtual 168, 3) := by decide +kernel
theorem dX7_goesOn_11 : decode cX7_goesOn 11 = .ok (.iinc 2 1, 3) := by decide +kernel
theorem dX7_goesOn_14 : decode cX7_goesOn 14 = .ok (.goto (-12), 3) := by decide +kernel
theorem dX7_goesOn_17 : decode cX7_goesOn 17 = .ok (.return_, 1) := by decide +kernel
theorem dX7_hours_0 : decode cX7_hours 0 = .ok (.iload_n 1, 1) := by decide +kernel
theorem dX7_hours_1 : decode cX7_hours 1 = .ok (.iconst 1, 1) := by decide +kernel
theorem dX7_hours_2 : decode cX7_hours 2 = .ok (.bipush 100, 2) := by decide +kernel
theorem dX7_hours_4 : decode cX7_hours 4 = .ok (.invokestatic 82, 3) := by decide +kernel
theorem dX7_hours_7 : decode cX7_hours 7 = .ok (.ifCond .ne 6, 3) := by decide +kernel
theorem dX7_hours_10 : decode cX7_hours 10 = .ok (.ldc 86, 2) := by decide +kernel
theorem dX7_hours_12 : decode cX7_hours 12 = .ok (.ireturn, 1) := by decide +kernel
theorem dX7_hours_13 : decode cX7_hours 13 = .ok (.aload_n 0, 1) := by decide +kernel
theorem dX7_hours_14 : decode cX7_hours 14 = .ok (.getfield 9, 3) := by decide +kernel
theorem dX7_hours_17 : decode cX7_hours 17 = .ok (.iconst 5, 1) := by decide +kernel
theorem dX7_hours_18 : decode cX7_hours 18 = .ok (.iaload, 1) := by decide +kernel
theorem dX7_hours_19 : decode cX7_hours 19 = .ok (.istore_n 2, 1) := by decide +kernel
theorem dX7_hours_20 : decode cX7_hours 20 = .ok (.aload_n 0, 1) := by decide +kernel
theorem dX7_hours_21 : decode cX7_hours 21 = .ok (.sipush 9999, 3) := by decide +kernel
theorem dX7_hours_24 : decode cX7_hours 24 = .ok (.aload_n 0, 1) := by decide +kernel
theorem dX7_hours_25 : decode cX7_hours 25 = .ok (.getfield 9, 3) := by decide +kernel
theorem dX7_hours_28 : decode cX7_hours 28 = .ok (.iconst 3, 1) := by decide +kernel
theorem dX7_hours_29 : decode cX7_hours 29 = .ok (.iaload, 1) := by decide +kernel
theorem dX7_hours_30 : decode cX7_hours 30 = .ok (.isub, 1) := by decide +kernel
theorem dX7_hours_31 : decode cX7_hours 31 = .ok (.iconst 0, 1) := by decide +kernel
theorem dX7_hours_32 : decode cX7_hours 32 = .ok (.iload_n 1, 1) := by decide +kernel
theorem dX7_hours_33 : decode cX7_hours 33 = .ok (.invokestatic 103, 3) := by decide +kernel
theorem dX7_hours_36 : decode cX7_hours 36 = .ok (.invokevirtual 171, 3) := by decide +kernel
theorem dX7_hours_39 : decode cX7_hours 39 = .ok (.aload_n 0, 1) := by decide +kernel
theorem dX7_hours_40 : decode cX7_hours 40 = .ok (.getfield 9, 3) := by decide +kernel
theorem dX7_hours_43 : decode cX7_hours 43 = .ok (.iconst 5, 1) := by decide +kernel
theorem dX7_hours_44 : decode cX7_hours 44 = .ok (.iaload, 1) := by decide +kernel
theorem dX7_hours_45 : decode cX7_hours 45 = .ok (.iload_n 2, 1) := by decide +kernel
theorem dX7_hours_46 : decode cX7_hours 46 = .ok (.isub, 1) := by decide +kernel
theorem dX7_hours_47 : decode cX7_hours 47 = .ok (.ireturn, 1) := by decide +kernel
theorem dX7_fullOfAll_0 : decode cX7_fullOfAll 0 = .ok (.iconst 0, 1) := by decide +kernel
theorem dX7_fullOfAll_1 : decode cX7_fullOfAll 1 = .ok (.istore_n 1, 1) := by decide +kernel
theorem dX7_fullOfAll_2 : decode cX7_fullOfAll 2 = .ok (.iconst 0, 1) := by decide +kernel
theorem dX7_fullOfAll_3 : decode cX7_fullOfAll 3 = .ok (.istore_n 2, 1) := by decide +kernel
theorem dX7_fullOfAll_4 : decode cX7_fullOfAll 4 = .ok (.iload_n 2, 1) := by decide +kernel
theorem dX7_fullOfAll_5 : decode cX7_fullOfAll 5 = .ok (.aload_n 0, 1) := by decide +kernel
theorem dX7_fullOfAll_6 : decode cX7_fullOfAll 6 = .ok (.getfield 9, 3) := by decide +kernel
theorem dX7_fullOfAll_9 : decode cX7_fullOfAll 9 = .ok (.iconst 1, 1) := by decide +kernel
theorem dX7_fullOfAll_10 : decode cX7_fullOfAll 10 = .ok (.iaload, 1) := by decide +kernel
theorem dX7_fullOfAll_11 : decode cX7_fullOfAll 11 = .ok (.if_icmp .ge 17, 3) := by decide +kernel
theorem dX7_fullOfAll_14 : decode cX7_fullOfAll 14 = .ok (.iload_n 1, 1) := by decide +kernel
theorem dX7_fullOfAll_15 : decode cX7_fullOfAll 15 = .ok (.aload_n 0, 1) := by decide +kernel
theorem dX7_fullOfAll_16 : decode cX7_fullOfAll 16 = .ok (.iload_n 2, 1) := by decide +kernel
theorem dX7_fullOfAll_17 : decode cX7_fullOfAll 17 = .ok (.invokevirtual 96, 3) := by decide +kernel
theorem dX7_fullOfAll_20 : decode cX7_fullOfAll 20 = .ok (.iadd, 1) := by decide +kernel
theorem dX7_fullOfAll_21 : decode cX7_fullOfAll 21 = .ok (.istore_n 1, 1) := by decide +kernel
theorem dX7_fullOfAll_22 : decode cX7_fullOfAll 22 = .ok (.iinc 2 1, 3) := by decide +kernel
theorem dX7_fullOfAll_25 : decode cX7_fullOfAll 25 = .ok (.goto (-21), 3) := by decide +kernel
theorem dX7_fullOfAll_28 : decode cX7_fullOfAll 28 = .ok (.iload_n 1, 1) := by decide +kernel
theorem dX7_fullOfAll_29 : decode cX7_fullOfAll 29 = .ok (.ireturn, 1) := by decide +kernel
theorem dX7_running_0 : decode cX7_running 0 = .ok (.iconst 0, 1) := by decide +kernel
theorem dX7_running_1 : decode cX7_running 1 = .ok (.istore_n 1, 1) := by decide +kernel
theorem dX7_running_2 : decode cX7_running 2 = .ok (.iconst 0, 1) := by decide +kernel
theorem dX7_running_3 : decode cX7_running 3 = .ok (.istore_n 2, 1) := by decide +kernel
theorem dX7_running_4 : decode cX7_running 4 = .ok (.iload_n 2, 1) := by decide +kernel
theorem dX7_running_5 : decode cX7_running 5 = .ok (.aload_n 0, 1) := by decide +kernel
theorem dX7_running_6 : decode cX7_running 6 = .ok (.getfield 9, 3) := by decide +kernel
theorem dX7_running_9 : decode cX7_running 9 = .ok (.iconst 2, 1) := by decide +kernel
theorem dX7_running_10 : decode cX7_running 10 = .ok (.iaload, 1) := by decide +kernel
theorem dX7_running_11 : decode cX7_running 11 = .ok (.if_icmp .ge 25, 3) := by decide +kernel
theorem dX7_running_14 : decode cX7_running 14 = .ok (.iload_n 1, 1) := by decide +kernel
theorem dX7_running_15 : decode cX7_running 15 = .ok (.aload_n 0, 1) := by decide +kernel
theorem dX7_running_16 : decode cX7_running 16 = .ok (.iload_n 2, 1) := by decide +kernel
theorem dX7_running_17 : decode cX7_running 17 = .ok (.invokevirtual 149, 3) := by decide +kernel
theorem dX7_running_20 : decode cX7_running 20 = .ok (.ifCond .le 7, 3) := by decide +kernel
theorem dX7_running_23 : decode cX7_running 23 = .ok (.iconst 1, 1) := by decide +kernel
theorem dX7_running_24 : decode cX7_running 24 = .ok (.goto 4, 3) := by decide +kernel
theorem dX7_running_27 : decode cX7_running 27 = .ok (.iconst 0, 1) := by decide +kernel
theorem dX7_running_28 : decode cX7_running 28 = .ok (.iadd, 1) := by decide +kernel
theorem dX7_running_29 : decode cX7_running 29 = .ok (.istore_n 1, 1) := by decide +kernel
theorem dX7_running_30 : decode cX7_running 30 = .ok (.iinc 2 1, 3) := by decide +kernel
theorem dX7_running_33 : decode cX7_running 33 = .ok (.goto (-29), 3) := by decide +kernel
theorem dX7_running_36 : decode cX7_running 36 = .ok (.iload_n 1, 1) := by decide +kernel
theorem dX7_running_37 : decode cX7_running 37 = .ok (.ireturn, 1) := by decide +kernel
theorem dX7_town_0 : decode cX7_town 0 = .ok (.iload_n 1, 1) := by decide +kernel
theorem dX7_town_1 : decode cX7_town 1 = .ok (.tableswitch 88 0 3 #[31, 36, 43, 48], 31) := by decide +kernel
theorem dX7_town_32 : decode cX7_town 32 = .ok (.aload_n 0, 1) := by decide +kernel
theorem dX7_town_33 : decode cX7_town 33 = .ok (.invokevirtual 174, 3) := by decide +kernel
theorem dX7_town_36 : decode cX7_town 36 = .ok (.ireturn, 1) := by decide +kernel
theorem dX7_town_37 : decode cX7_town 37 = .ok (.aload_n 0, 1) := by decide +kernel
theorem dX7_town_38 : decode cX7_town 38 = .ok (.getfield 9, 3) := by decide +kernel
theorem dX7_town_41 : decode cX7_town 41 = .ok (.iconst 5, 1) := by decide +kernel
theorem dX7_town_42 : decode cX7_town 42 = .ok (.iaload, 1) := by decide +kernel
theorem dX7_town_43 : decode cX7_town 43 = .ok (.ireturn, 1) := by decide +kernel
theorem dX7_town_44 : decode cX7_town 44 = .ok (.aload_n 0, 1) := by decide +kernel
theorem dX7_town_45 : decode cX7_town 45 = .ok (.invokevirtual 177, 3) := by decide +kernel
theorem dX7_town_48 : decode cX7_town 48 = .ok (.ireturn, 1) := by decide +kernel
theorem dX7_town_49 : decode cX7_town 49 = .ok (.iconst 0, 1) := by decide +kernel
theorem dX7_town_50 : decode cX7_town 50 = .ok (.istore_n 2, 1) := by decide +kernel
theorem dX7_town_51 : decode cX7_town 51 = .ok (.iconst 0, 1) := by decide +kernel
theorem dX7_town_52 : decode cX7_town 52 = .ok (.istore_n 3, 1) := by decide +kernel
theorem dX7_town_53 : decode cX7_town 53 = .ok (.iload_n 3, 1) := by decide +kernel
theorem dX7_town_54 : decode cX7_town 54 = .ok (.aload_n 0, 1) := by decide +kernel
theorem dX7_town_55 : decode cX7_town 55 = .ok (.getfield 9, 3) := by decide +kernel
theorem dX7_town_58 : decode cX7_town 58 = .ok (.iconst 1, 1) := by decide +kernel
theorem dX7_town_59 : decode cX7_town 59 = .ok (.iaload, 1) := by decide +kernel
theorem dX7_town_60 : decode cX7_town 60 = .ok (.if_icmp .ge 27, 3) := by decide +kernel
theorem dX7_town_63 : decode cX7_town 63 = .ok (.iload_n 2, 1) := by decide +kernel
theorem dX7_town_64 : decode cX7_town 64 = .ok (.aload_n 0, 1) := by decide +kernel
theorem dX7_town_65 : decode cX7_town 65 = .ok (.iload_n 3, 1) := by decide +kernel
theorem dX7_town_66 : decode cX7_town 66 = .ok (.invokevirtual 96, 3) := by decide +kernel
theorem dX7_town_69 : decode cX7_town 69 = .ok (.ifCond .le 9, 3) := by decide +kernel
theorem dX7_town_72 : decode cX7_town 72 = .ok (.iconst 1, 1) := by decide +kernel
theorem dX7_town_73 : decode cX7_town 73 = .ok (.iload_n 3, 1) := by decide +kernel
theorem dX7_town_74 : decode cX7_town 74 = .ok (.ishl, 1) := by decide +kernel
theorem dX7_town_75 : decode cX7_town 75 = .ok (.goto 4, 3) := by decide +kernel
theorem dX7_town_78 : decode cX7_town 78 = .ok (.iconst 0, 1) := by decide +kernel
theorem dX7_town_79 : decode cX7_town 79 = .ok (.ior, 1) := by decide +kernel
theorem dX7_town_80 : decode cX7_town 80 = .ok (.istore_n 2, 1) := by decide +kernel
theorem dX7_town_81 : decode cX7_town 81 = .ok (.iinc 3 1, 3) := by decide +kernel
theorem dX7_town_84 : decode cX7_town 84 = .ok (.goto (-31), 3) := by decide +kernel
theorem dX7_town_87 : decode cX7_town 87 = .ok (.iload_n 2, 1) := by decide +kernel
theorem dX7_town_88 : decode cX7_town 88 = .ok (.ireturn, 1) := by decide +kernel
theorem dX7_town_89 : decode cX7_town 89 = .ok (.ldc 86, 2) := by decide +kernel
theorem dX7_town_91 : decode cX7_town 91 = .ok (.ireturn, 1) := by decide +kernel
theorem dX7_thinks_0 : decode cX7_thinks 0 = .ok (.iconst 0, 1) := by decide +kernel
theorem dX7_thinks_1 : decode cX7_thinks 1 = .ok (.istore_n 1, 1) := by decide +kernel
theorem dX7_thinks_2 : decode cX7_thinks 2 = .ok (.iload_n 1, 1) := by decide +kernel
theorem dX7_thinks_3 : decode cX7_thinks 3 = .ok (.bipush 107, 2) := by decide +kernel
theorem dX7_thinks_5 : decode cX7_thinks 5 = .ok (.if_icmp .ge 21, 3) := by decide +kernel
theorem dX7_thinks_8 : decode cX7_thinks 8 = .ok (.aload_n 0, 1) := by decide +kernel
theorem dX7_thinks_9 : decode cX7_thinks 9 = .ok (.getfield 22, 3) := by decide +kernel
theorem dX7_thinks_12 : decode cX7_thinks 12 = .ok (.iload_n 1, 1) := by decide +kernel
theorem dX7_thinks_13 : decode cX7_thinks 13 = .ok (.aload_n 0, 1) := by decide +kernel
theorem dX7_thinks_14 : decode cX7_thinks 14 = .ok (.getfield 9, 3) := by decide +kernel
theorem dX7_thinks_17 : decode cX7_thinks 17 = .ok (.iload_n 1, 1) := by decide +kernel
theorem dX7_thinks_18 : decode cX7_thinks 18 = .ok (.iaload, 1) := by decide +kernel
theorem dX7_thinks_19 : decode cX7_thinks 19 = .ok (.iastore, 1) := by decide +kernel
theorem dX7_thinks_20 : decode cX7_thinks 20 = .ok (.iinc 1 1, 3) := by decide +kernel
theorem dX7_thinks_23 : decode cX7_thinks 23 = .ok (.goto (-21), 3) := by decide +kernel
theorem dX7_thinks_26 : decode cX7_thinks 26 = .ok (.return_, 1) := by decide +kernel
theorem dX7_putsBack_0 : decode cX7_putsBack 0 = .ok (.iconst 0, 1) := by decide +kernel
theorem dX7_putsBack_1 : decode cX7_putsBack 1 = .ok (.istore_n 1, 1) := by decide +kernel
theorem dX7_putsBack_2 : decode cX7_putsBack 2 = .ok (.iload_n 1, 1) := by decide +kernel
theorem dX7_putsBack_3 : decode cX7_putsBack 3 = .ok (.bipush 107, 2) := by decide +kernel
theorem dX7_putsBack_5 : decode cX7_putsBack 5 = .ok (.if_icmp .ge 21, 3) := by decide +kernel
theorem dX7_putsBack_8 : decode cX7_putsBack 8 = .ok (.aload_n 0, 1) := by decide +kernel
theorem dX7_putsBack_9 : decode cX7_putsBack 9 = .ok (.getfield 9, 3) := by decide +kernel
theorem dX7_putsBack_12 : decode cX7_putsBack 12 = .ok (.iload_n 1, 1) := by decide +kernel
theorem dX7_putsBack_13 : decode cX7_putsBack 13 = .ok (.aload_n 0, 1) := by decide +kernel
theorem dX7_putsBack_14 : decode cX7_putsBack 14 = .ok (.getfield 22, 3) := by decide +kernel
theorem dX7_putsBack_17 : decode cX7_putsBack 17 = .ok (.iload_n 1, 1) := by decide +kernel
theorem dX7_putsBack_18 : decode cX7_putsBack 18 = .ok (.iaload, 1) := by decide +kernel
theorem dX7_putsBack_19 : decode cX7_putsBack 19 = .ok (.iastore, 1) := by decide +kernel
theorem dX7_putsBack_20 : decode cX7_putsBack 20 = .ok (.iinc 1 1, 3) := by decide +kernel
theorem dX7_putsBack_23 : decode cX7_putsBack 23 = .ok (.goto (-21), 3) := by decide +kernel
theorem dX7_putsBack_26 : decode cX7_putsBack 26 = .ok (.return_, 1) := by decide +kernel
theorem dX7_behind_0 : decode cX7_behind 0 = .ok (.iload_n 1, 1) := by decide +kernel
theorem dX7_behind_1 : decode cX7_behind 1 = .ok (.iconst 0, 1) := by decide +kernel
theorem dX7_behind_2 : decode cX7_behind 2 = .ok (.bipush 100, 2) := by decide +kernel
theorem dX7_behind_4 : decode cX7_behind 4 = .ok (.invokestatic 82, 3) := by decide +kernel
theorem dX7_behind_7 : decode cX7_behind 7 = .ok (.ifCond .eq 22, 3) := by decide +kernel
theorem dX7_behind_10 : decode cX7_behind 10 = .ok (.iload_n 2, 1) := by decide +kernel
theorem dX7_behind_11 : decode cX7_behind 11 = .ok (.ifCond .lt 18, 3) := by decide +kernel
theorem dX7_behind_14 : decode cX7_behind 14 = .ok (.iload_n 2, 1) := by decide +kernel
theorem dX7_behind_15 : decode cX7_behind 15 = .ok (.iconst 1, 1) := by decide +kernel
theorem dX7_behind_16 : decode cX7_behind 16 = .ok (.if_icmp .le 16, 3) := by decide +kernel
theorem dX7_behind_19 : decode cX7_behind 19 = .ok (.aload_n 0, 1) := by decide +kernel
theorem dX7_behind_20 : decode cX7_behind 20 = .ok (.iload_n 2, 1) := by decide +kernel
theorem dX7_behind_21 : decode cX7_behind 21 = .ok (.iconst 2, 1) := by decide +kernel
theorem dX7_behind_22 : decode cX7_behind 22 = .ok (.isub, 1) := by decide +kernel
theorem dX7_behind_23 : decode cX7_behind 23 = .ok (.invokevirtual 112, 3) := by decide +kernel
theorem dX7_behind_26 : decode cX7_behind 26 = .ok (.ifCond .ne 6, 3) := by decide +kernel
theorem dX7_behind_29 : decode cX7_behind 29 = .ok (.ldc 86, 2) := by decide +kernel
theorem dX7_behind_31 : decode cX7_behind 31 = .ok (.ireturn, 1) := by decide +kernel
theorem dX7_behind_32 : decode cX7_behind 32 = .ok (.aload_n 0, 1) := by decide +kernel
theorem dX7_behind_33 : decode cX7_behind 33 = .ok (.invokevirtual 180, 3) := by decide +kernel
theorem dX7_behind_36 : decode cX7_behind 36 = .ok (.aload_n 0, 1) := by decide +kernel
theorem dX7_behind_37 : decode cX7_behind 37 = .ok (.iload_n 1, 1) := by decide +kernel
theorem dX7_behind_38 : decode cX7_behind 38 = .ok (.invokevirtual 171, 3) := by decide +kernel
theorem dX7_behind_41 : decode cX7_behind 41 = .ok (.iload_n 2, 1) := by decide +kernel
theorem dX7_behind_42 : decode cX7_behind 42 = .ok (.ifCond .ne 10, 3) := by decide +kernel
theorem dX7_behind_45 : decode cX7_behind 45 = .ok (.aload_n 0, 1) := by decide +kernel
theorem dX7_behind_46 : decode cX7_behind 46 = .ok (.invokevirtual 174, 3) := by decide +kernel
theorem dX7_behind_49 : decode cX7_behind 49 = .ok (.goto 24, 3) := by decide +kernel
theorem dX7_behind_52 : decode cX7_behind 52 = .ok (.iload_n 2, 1) := by decide +kernel
theorem dX7_behind_53 : decode cX7_behind 53 = .ok (.iconst 1, 1) := by decide +kernel
theorem dX7_behind_54 : decode cX7_behind 54 = .ok (.if_icmp .ne 12, 3) := by decide +kernel
theorem dX7_behind_57 : decode cX7_behind 57 = .ok (.aload_n 0, 1) := by decide +kernel
theorem dX7_behind_58 : decode cX7_behind 58 = .ok (.getfield 9, 3) := by decide +kernel
theorem dX7_behind_61 : decode cX7_behind 61 = .ok (.iconst 5, 1) := by decide +kernel
theorem dX7_behind_62 : decode cX7_behind 62 = .ok (.iaload, 1) := by decide +kernel
theorem dX7_behind_63 : decode cX7_behind 63 = .ok (.goto 10, 3) := by decide +kernel
theorem dX7_behind_66 : decode cX7_behind 66 = .ok (.aload_n 0, 1) := by decide +kernel
theorem dX7_behind_67 : decode cX7_behind 67 = .ok (.iload_n 2, 1) := by decide +kernel
theorem dX7_behind_68 : decode cX7_behind 68 = .ok (.iconst 2, 1) := by decide +kernel
theorem dX7_behind_69 : decode cX7_behind 69 = .ok (.isub, 1) := by decide +kernel
theorem dX7_behind_70 : decode cX7_behind 70 = .ok (.invokevirtual 96, 3) := by decide +kernel
theorem dX7_behind_73 : decode cX7_behind 73 = .ok (.istore_n 3, 1) := by decide +kernel
theorem dX7_behind_74 : decode cX7_behind 74 = .ok (.aload_n 0, 1) := by decide +kernel
theorem dX7_behind_75 : decode cX7_behind 75 = .ok (.invokevirtual 183, 3) := by decide +kernel
theorem dX7_behind_78 : decode cX7_behind 78 = .ok (.iload_n 3, 1) := by decide +kernel
theorem dX7_behind_79 : decode cX7_behind 79 = .ok (.ireturn, 1) := by decide +kernel
theorem dX7_taste_0 : decode cX7_taste 0 = .ok (.aload_n 0, 1) := by decide +kernel
theorem dX7_taste_1 : decode cX7_taste 1 = .ok (.iload_n 1, 1) := by decide +kernel
theorem dX7_taste_2 : decode cX7_taste 2 = .ok (.invokevirtual 112, 3) := by decide +kernel
theorem dX7_taste_5 : decode cX7_taste 5 = .ok (.ifCond .eq 22, 3) := by decide +kernel
theorem dX7_taste_8 : decode cX7_taste 8 = .ok (.iload_n 2, 1) := by decide +kernel
theorem dX7_taste_9 : decode cX7_taste 9 = .ok (.iconst 0, 1) := by decide +kernel
theorem dX7_taste_10 : decode cX7_taste 10 = .ok (.iconst 2, 1) := by decide +kernel
theorem dX7_taste_11 : decode cX7_taste 11 = .ok (.invokestatic 82, 3) := by decide +kernel
theorem dX7_taste_14 : decode cX7_taste 14 = .ok (.ifCond .eq 13, 3) := by decide +kernel
theorem dX7_taste_17 : decode cX7_taste 17 = .ok (.iload_n 3, 1) := by decide +kernel
theorem dX7_taste_18 : decode cX7_taste 18 = .ok (.iconst 0, 1) := by decide +kernel
theorem dX7_taste_19 : decode cX7_taste 19 = .ok (.bipush 100, 2) := by decide +kernel
theorem dX7_taste_21 : decode cX7_taste 21 = .ok (.invokestatic 82, 3) := by decide +kernel
theorem dX7_taste_24 : decode cX7_taste 24 = .ok (.ifCond .ne 6, 3) := by decide +kernel
theorem dX7_taste_27 : decode cX7_taste 27 = .ok (.ldc 86, 2) := by decide +kernel
theorem dX7_taste_29 : decode cX7_taste 29 = .ok (.ireturn, 1) := by decide +kernel
theorem dX7_taste_30 : decode cX7_taste 30 = .ok (.aload_n 0, 1) := by decide +kernel
theorem dX7_taste_31 : decode cX7_taste 31 = .ok (.invokevirtual 180, 3) := by decide +kernel
theorem dX7_taste_34 : decode cX7_taste 34 = .ok (.aload_n 0, 1) := by decide +kernel
theorem dX7_taste_35 : decode cX7_taste 35 = .ok (.iload_n 3, 1) := by decide +kernel
theorem dX7_taste_36 : decode cX7_taste 36 = .ok (.invokevirtual 171, 3) := by decide +kernel
theorem dX7_taste_39 : decode cX7_taste 39 = .ok (.aload_n 0, 1) := by decide +kernel
theorem dX7_taste_40 : decode cX7_taste 40 = .ok (.iload_n 1, 1) := by decide +kernel
theorem dX7_taste_41 : decode cX7_taste 41 = .ok (.iconst 3, 1) := by decide +kernel
theorem dX7_taste_42 : decode cX7_taste 42 = .ok (.iload_n 2, 1) := by decide +kernel
theorem dX7_taste_43 : decode cX7_taste 43 = .ok (.iadd, 1) := by decide +kernel
theorem dX7_taste_44 : decode cX7_taste 44 = .ok (.invokevirtual 92, 3) := by decide +kernel
theorem dX7_taste_47 : decode cX7_taste 47 = .ok (.istore 4, 2) := by decide +kernel
theorem dX7_taste_49 : decode cX7_taste 49 = .ok (.aload_n 0, 1) := by decide +kernel
theorem dX7_taste_50 : decode cX7_taste 50 = .ok (.invokevirtual 183, 3) := by decide +kernel
theorem dX7_taste_53 : decode cX7_taste 53 = .ok (.iload 4, 2) := by decide +kernel
theorem dX7_taste_55 : decode cX7_taste 55 = .ok (.ireturn, 1) := by decide +kernel
theorem dX7_rests_0 : decode cX7_rests 0 = .ok (.aload_n 0, 1) := by decide +kernel
theorem dX7_rests_1 : decode cX7_rests 1 = .ok (.invokevirtual 180, 3) := by decide +kernel
theorem dX7_rests_4 : decode cX7_rests 4 = .ok (.iconst 0, 1) := by decide +kernel
theorem dX7_rests_5 : decode cX7_rests 5 = .ok (.istore_n 1, 1) := by decide +kernel
theorem dX7_rests_6 : decode cX7_rests 6 = .ok (.iload_n 1, 1) := by decide +kernel
theorem dX7_rests_7 : decode cX7_rests 7 = .ok (.sipush 300, 3) := by decide +kernel
theorem dX7_rests_10 : decode cX7_rests 10 = .ok (.if_icmp .gt 20, 3) := by decide +kernel
theorem dX7_rests_13 : decode cX7_rests 13 = .ok (.aload_n 0, 1) := by decide +kernel
theorem dX7_rests_14 : decode cX7_rests 14 = .ok (.invokevirtual 177, 3) := by decide +kernel
theorem dX7_rests_17 : decode cX7_rests 17 = .ok (.ifCond .le 13, 3) := by decide +kernel
theorem dX7_rests_20 : decode cX7_rests 20 = .ok (.aload_n 0, 1) := by decide +kernel
theorem dX7_rests_21 : decode cX7_rests 21 = .ok (.invokevirtual 168, 3) := by decide +kernel
theorem dX7_rests_24 : decode cX7_rests 24 = .ok (.iinc 1 1, 3) := by decide +kernel
theorem dX7_rests_27 : decode cX7_rests 27 = .ok (.goto (-21), 3) := by decide +kernel
theorem dX7_rests_30 : decode cX7_rests 30 = .ok (.aload_n 0, 1) := by decide +kernel
theorem dX7_rests_31 : decode cX7_rests 31 = .ok (.invokevirtual 183, 3) := by decide +kernel
theorem dX7_rests_34 : decode cX7_rests 34 = .ok (.iload_n 1, 1) := by decide +kernel
theorem dX7_rests_35 : decode cX7_rests 35 = .ok (.sipush 300, 3) := by decide +kernel
theorem dX7_rests_38 : decode cX7_rests 38 = .ok (.if_icmp .le 8, 3) := by decide +kernel
theorem dX7_rests_41 : decode cX7_rests 41 = .ok (.ldc 81, 2) := by decide +kernel
theorem dX7_rests_43 : decode cX7_rests 43 = .ok (.goto 4, 3) := by decide +kernel
theorem dX7_rests_46 : decode cX7_rests 46 = .ok (.iload_n 1, 1) := by decide +kernel
theorem dX7_rests_47 : decode cX7_rests 47 = .ok (.ireturn, 1) := by decide +kernel
theorem dX7_corks_0 : decode cX7_corks 0 = .ok (.aload_n 0, 1) := by decide +kernel
theorem dX7_corks_1 : decode cX7_corks 1 = .ok (.iload_n 1, 1) := by decide +kernel
theorem dX7_corks_2 : decode cX7_corks 2 = .ok (.invokevirtual 112, 3) := by decide +kernel
theorem dX7_corks_5 : decode cX7_corks 5 = .ok (.ifCond .eq 22, 3) := by decide +kernel
theorem dX7_corks_8 : decode cX7_corks 8 = .ok (.iload_n 2, 1) := by decide +kernel
theorem dX7_corks_9 : decode cX7_corks 9 = .ok (.iconst 1, 1) := by decide +kernel
theorem dX7_corks_10 : decode cX7_corks 10 = .ok (.bipush 60, 2) := by decide +kernel
theorem dX7_corks_12 : decode cX7_corks 12 = .ok (.invokestatic 82, 3) := by decide +kernel
theorem dX7_corks_15 : decode cX7_corks 15 = .ok (.ifCond .eq 12, 3) := by decide +kernel
theorem dX7_corks_18 : decode cX7_corks 18 = .ok (.iload_n 3, 1) := by decide +kernel
theorem dX7_corks_19 : decode cX7_corks 19 = .ok (.iconst 0, 1) := by decide +kernel
theorem dX7_corks_20 : decode cX7_corks 20 = .ok (.iconst 1, 1) := by decide +kernel
theorem dX7_corks_21 : decode cX7_corks 21 = .ok (.invokestatic 82, 3) := by decide +kernel
theorem dX7_corks_24 : decode cX7_corks 24 = .ok (.ifCond .ne 6, 3) := by decide +kernel
theorem dX7_corks_27 : decode cX7_corks 27 = .ok (.ldc 86, 2) := by decide +kernel
theorem dX7_corks_29 : decode cX7_corks 29 = .ok (.ireturn, 1) := by decide +kernel
theorem dX7_corks_30 : decode cX7_corks 30 = .ok (.aload_n 0, 1) := by decide +kernel
theorem dX7_corks_31 : decode cX7_corks 31 = .ok (.invokevirtual 180, 3) := by decide +kernel
theorem dX7_corks_34 : decode cX7_corks 34 = .ok (.iconst (-1), 1) := by decide +kernel
theorem dX7_corks_35 : decode cX7_corks 35 = .ok (.istore 4, 2) := by decide +kernel
theorem dX7_corks_37 : decode cX7_corks 37 = .ok (.iconst (-1), 1) := by decide +kernel
theorem dX7_corks_38 : decode cX7_corks 38 = .ok (.istore 5, 2) := by decide +kernel
theorem dX7_corks_40 : decode cX7_corks 40 = .ok (.iconst 0, 1) := by decide +kernel
theorem dX7_corks_41 : decode cX7_corks 41 = .ok (.istore 6, 2) := by decide +kernel
theorem dX7_corks_43 : decode cX7_corks 43 = .ok (.iload 6, 2) := by decide +kernel
theorem dX7_corks_45 : decode cX7_corks 45 = .ok (.aload_n 0, 1) := by decide +kernel
theorem dX7_corks_46 : decode cX7_corks 46 = .ok (.getfield 9, 3) := by decide +kernel
theorem dX7_corks_49 : decode cX7_corks 49 = .ok (.iconst 2, 1) := by decide +kernel
theorem dX7_corks_50 : decode cX7_corks 50 = .ok (.iaload, 1) := by decide +kernel
theorem dX7_corks_51 : decode cX7_corks 51 = .ok (.if_icmp .ge 82, 3) := by decide +kernel
theorem dX7_corks_54 : decode cX7_corks 54 = .ok (.aload_n 0, 1) := by decide +kernel
theorem dX7_corks_55 : decode cX7_corks 55 = .ok (.iload 6, 2) := by decide +kernel
theorem dX7_corks_57 : decode cX7_corks 57 = .ok (.iconst 3, 1) := by decide +kernel
theorem dX7_corks_58 : decode cX7_corks 58 = .ok (.invokevirtual 140, 3) := by decide +kernel
theorem dX7_corks_61 : decode cX7_corks 61 = .ok (.ifCond .ne 66, 3) := by decide +kernel
theorem dX7_corks_64 : decode cX7_corks 64 = .ok (.aload_n 0, 1) := by decide +kernel
theorem dX7_corks_65 : decode cX7_corks 65 = .ok (.getfield 9, 3) := by decide +kernel
theorem dX7_corks_68 : decode cX7_corks 68 = .ok (.bipush 55, 2) := by decide +kernel
theorem dX7_corks_70 : decode cX7_corks 70 = .ok (.iconst 4, 1) := by decide +kernel
theorem dX7_corks_71 : decode cX7_corks 71 = .ok (.iload 6, 2) := by decide +kernel
theorem dX7_corks_73 : decode cX7_corks 73 = .ok (.imul, 1) := by decide +kernel
theorem dX7_corks_74 : decode cX7_corks 74 = .ok (.iadd, 1) := by decide +kernel
theorem dX7_corks_75 : decode cX7_corks 75 = .ok (.iconst 3, 1) := by decide +kernel
theorem dX7_corks_76 : decode cX7_corks 76 = .ok (.iadd, 1) := by decide +kernel
theorem dX7_corks_77 : decode cX7_corks 77 = .ok (.iconst 1, 1) := by decide +kernel
theorem dX7_corks_78 : decode cX7_corks 78 = .ok (.iastore, 1) := by decide +kernel
theorem dX7_corks_79 : decode cX7_corks 79 = .ok (.aload_n 0, 1) := by decide +kernel
theorem dX7_corks_80 : decode cX7_corks 80 = .ok (.iload_n 2, 1) := by decide +kernel
theorem dX7_corks_81 : decode cX7_corks 81 = .ok (.invokevirtual 171, 3) := by decide +kernel
theorem dX7_corks_84 : decode cX7_corks 84 = .ok (.aload_n 0, 1) := by decide +kernel
theorem dX7_corks_85 : decode cX7_corks 85 = .ok (.iload_n 1, 1) := by decide +kernel
theorem dX7_corks_86 : decode cX7_corks 86 = .ok (.invokevirtual 96, 3) := by decide +kernel
theorem dX7_corks_89 : decode cX7_corks 89 = .ok (.istore 7, 2) := by decide +kernel
theorem dX7_corks_91 : decode cX7_corks 91 = .ok (.aload_n 0, 1) := by decide +kernel
theorem dX7_corks_92 : decode cX7_corks 92 = .ok (.invokevirtual 183, 3) := by decide +kernel
theorem dX7_corks_95 : decode cX7_corks 95 = .ok (.iload 7, 2) := by decide +kernel
theorem dX7_corks_97 : decode cX7_corks 97 = .ok (.iload 5, 2) := by decide +kernel
theorem dX7_corks_99 : decode cX7_corks 99 = .ok (.if_icmp .le 8, 3) := by decide +kernel
theorem dX7_corks_102 : decode cX7_corks 102 = .ok (.iload 6, 2) := by decide +kernel
theorem dX7_corks_104 : decode cX7_corks 104 = .ok (.goto 5, 3) := by decide +kernel
theorem dX7_corks_107 : decode cX7_corks 107 = .ok (.iload 4, 2) := by decide +kernel
theorem dX7_corks_109 : decode cX7_corks 109 = .ok (.istore 4, 2) := by decide +kernel
theorem dX7_corks_111 : decode cX7_corks 111 = .ok (.iload 7, 2) := by decide +kernel
theorem dX7_corks_113 : decode cX7_corks 113 = .ok (.iload 5, 2) := by decide +kernel
theorem dX7_corks_115 : decode cX7_corks 115 = .ok (.if_icmp .le 8, 3) := by decide +kernel
theorem dX7_corks_118 : decode cX7_corks 118 = .ok (.iload 7, 2) := by decide +kernel
theorem dX7_corks_120 : decode cX7_corks 120 = .ok (.goto 5, 3) := by decide +kernel
theorem dX7_corks_123 : decode cX7_corks 123 = .ok (.iload 5, 2) := by decide +kernel
theorem dX7_corks_125 : decode cX7_corks 125 = .ok (.istore 5, 2) := by decide +kernel
theorem dX7_corks_127 : decode cX7_corks 127 = .ok (.iinc 6 1, 3) := by decide +kernel
theorem dX7_corks_130 : decode cX7_corks 130 = .ok (.goto (-87), 3) := by decide +kernel
theorem dX7_corks_133 : decode cX7_corks 133 = .ok (.iload 4, 2) := by decide +kernel
theorem dX7_corks_135 : decode cX7_corks 135 = .ok (.ifCond .ge 8, 3) := by decide +kernel
theorem dX7_corks_138 : decode cX7_corks 138 = .ok (.ldc 81, 2) := by decide +kernel
theorem dX7_corks_140 : decode cX7_corks 140 = .ok (.goto 14, 3) := by decide +kernel
theorem dX7_corks_143 : decode cX7_corks 143 = .ok (.iload_n 3, 1) := by decide +kernel
theorem dX7_corks_144 : decode cX7_corks 144 = .ok (.ifCond .ne 8, 3) := by decide +kernel
theorem dX7_corks_147 : decode cX7_corks 147 = .ok (.iload 4, 2) := by decide +kernel
theorem dX7_corks_149 : decode cX7_corks 149 = .ok (.goto 5, 3) := by decide +kernel
theorem dX7_corks_152 : decode cX7_corks 152 = .ok (.iload 5, 2) := by decide +kernel
theorem dX7_corks_154 : decode cX7_corks 154 = .ok (.ireturn, 1) := by decide +kernel
theorem dX7_areJoined_0 : decode cX7_areJoined 0 = .ok (.iconst 0, 1) := by decide +kernel
theorem dX7_areJoined_1 : decode cX7_areJoined 1 = .ok (.istore_n 3, 1) := by decide +kernel
theorem dX7_areJoined_2 : decode cX7_areJoined 2 = .ok (.iconst 0, 1) := by decide +kernel
theorem dX7_areJoined_3 : decode cX7_areJoined 3 = .ok (.istore 4, 2) := by decide +kernel
theorem dX7_areJoined_5 : decode cX7_areJoined 5 = .ok (.iload 4, 2) := by decide +kernel
theorem dX7_areJoined_7 : decode cX7_areJoined 7 = .ok (.aload_n 0, 1) := by decide +kernel
theorem dX7_areJoined_8 : decode cX7_areJoined 8 = .ok (.getfield 9, 3) := by decide +kernel
theorem dX7_areJoined_11 : decode cX7_areJoined 11 = .ok (.iconst 2, 1) := by decide +kernel
theorem dX7_areJoined_12 : decode cX7_areJoined 12 = .ok (.iaload, 1) := by decide +kernel
theorem dX7_areJoined_13 : decode cX7_areJoined 13 = .ok (.if_icmp .ge 63, 3) := by decide +kernel
theorem dX7_areJoined_16 : decode cX7_areJoined 16 = .ok (.iload_n 3, 1) := by decide +kernel
theorem dX7_areJoined_17 : decode cX7_areJoined 17 = .ok (.ifCond .ne 47, 3) := by decide +kernel
theorem dX7_areJoined_20 : decode cX7_areJoined 20 = .ok (.aload_n 0, 1) := by decide +kernel
theorem dX7_areJoined_21 : decode cX7_areJoined 21 = .ok (.iload 4, 2) := by decide +kernel
theorem dX7_areJoined_23 : decode cX7_areJoined 23 = .ok (.iconst 0, 1) := by decide +kernel
theorem dX7_areJoined_24 : decode cX7_areJoined 24 = .ok (.invokevirtual 140, 3) := by decide +kernel
theorem dX7_areJoined_27 : decode cX7_areJoined 27 = .ok (.iload_n 1, 1) := by decide +kernel
theorem dX7_areJoined_28 : decode cX7_areJoined 28 = .ok (.if_icmp .ne 14, 3) := by decide +kernel
theorem dX7_areJoined_31 : decode cX7_areJoined 31 = .ok (.aload_n 0, 1) := by decide +kernel
theorem dX7_areJoined_32 : decode cX7_areJoined 32 = .ok (.iload 4, 2) := by decide +kernel
theorem dX7_areJoined_34 : decode cX7_areJoined 34 = .ok (.iconst 1, 1) := by decide +kernel
theorem dX7_areJoined_35 : decode cX7_areJoined 35 = .ok (.invokevirtual 140, 3) := by decide +kernel
theorem dX7_areJoined_38 : decode cX7_areJoined 38 = .ok (.iload_n 2, 1) := by decide +kernel
theorem dX7_areJoined_39 : decode cX7_areJoined 39 = .ok (.if_icmp .eq 25, 3) := by decide +kernel
theorem dX7_areJoined_42 : decode cX7_areJoined 42 = .ok (.aload_n 0, 1) := by decide +kernel
theorem dX7_areJoined_43 : decode cX7_areJoined 43 = .ok (.iload 4, 2) := by decide +kernel
theorem dX7_areJoined_45 : decode cX7_areJoined 45 = .ok (.iconst 0, 1) := by decide +kernel
theorem dX7_areJoined_46 : decode cX7_areJoined 46 = .ok (.invokevirtual 140, 3) := by decide +kernel
theorem dX7_areJoined_49 : decode cX7_areJoined 49 = .ok (.iload_n 2, 1) := by decide +kernel
theorem dX7_areJoined_50 : decode cX7_areJoined 50 = .ok (.if_icmp .ne 18, 3) := by decide +kernel
theorem dX7_areJoined_53 : decode cX7_areJoined 53 = .ok (.aload_n 0, 1) := by decide +kernel
theorem dX7_areJoined_54 : decode cX7_areJoined 54 = .ok (.iload 4, 2) := by decide +kernel
theorem dX7_areJoined_56 : decode cX7_areJoined 56 = .ok (.iconst 1, 1) := by decide +kernel
theorem dX7_areJoined_57 : decode cX7_areJoined 57 = .ok (.invokevirtual 140, 3) := by decide +kernel
theorem dX7_areJoined_60 : decode cX7_areJoined 60 = .ok (.iload_n 1, 1) := by decide +kernel
theorem dX7_areJoined_61 : decode cX7_areJoined 61 = .ok (.if_icmp .ne 7, 3) := by decide +kernel
theorem dX7_areJoined_64 : decode cX7_areJoined 64 = .ok (.iconst 1, 1) := by decide +kernel
theorem dX7_areJoined_65 : decode cX7_areJoined 65 = .ok (.goto 4, 3) := by decide +kernel
theorem dX7_areJoined_68 : decode cX7_areJoined 68 = .ok (.iconst 0, 1) := by decide +kernel
theorem dX7_areJoined_69 : decode cX7_areJoined 69 = .ok (.istore_n 3, 1) := by decide +kernel
theorem dX7_areJoined_70 : decode cX7_areJoined 70 = .ok (.iinc 4 1, 3) := by decide +kernel
theorem dX7_areJoined_73 : decode cX7_areJoined 73 = .ok (.goto (-68), 3) := by decide +kernel
theorem dX7_areJoined_76 : decode cX7_areJoined 76 = .ok (.iload_n 3, 1) := by decide +kernel
theorem dX7_areJoined_77 : decode cX7_areJoined 77 = .ok (.ireturn, 1) := by decide +kernel
theorem dX7_dig_0 : decode cX7_dig 0 = .ok (.iload_n 1, 1) := by decide +kernel
theorem dX7_dig_1 : decode cX7_dig 1 = .ok (.iconst 1, 1) := by decide +kernel
theorem dX7_dig_2 : decode cX7_dig 2 = .ok (.bipush 40, 2) := by decide +kernel
theorem dX7_dig_4 : decode cX7_dig 4 = .ok (.invokestatic 82, 3) := by decide +kernel
theorem dX7_dig_7 : decode cX7_dig 7 = .ok (.ifCond .eq 12, 3) := by decide +kernel
theorem dX7_dig_10 : decode cX7_dig 10 = .ok (.iload_n 2, 1) := by decide +kernel
theorem dX7_dig_11 : decode cX7_dig 11 = .ok (.iconst 0, 1) := by decide +kernel
theorem dX7_dig_12 : decode cX7_dig 12 = .ok (.iconst 1, 1) := by decide +kernel
theorem dX7_dig_13 : decode cX7_dig 13 = .ok (.invokestatic 82, 3) := by decide +kernel
theorem dX7_dig_16 : decode cX7_dig 16 = .ok (.ifCond .ne 6, 3) := by decide +kernel
theorem dX7_dig_19 : decode cX7_dig 19 = .ok (.ldc 86, 2) := by decide +kernel
theorem dX7_dig_21 : decode cX7_dig 21 = .ok (.ireturn, 1) := by decide +kernel
theorem dX7_dig_22 : decode cX7_dig 22 = .ok (.aload_n 0, 1) := by decide +kernel
theorem dX7_dig_23 : decode cX7_dig 23 = .ok (.invokevirtual 180, 3) := by decide +kernel
theorem dX7_dig_26 : decode cX7_dig 26 = .ok (.iconst (-1), 1) := by decide +kernel
theorem dX7_dig_27 : decode cX7_dig 27 = .ok (.istore_n 3, 1) := by decide +kernel
theorem dX7_dig_28 : decode cX7_dig 28 = .ok (.iconst 0, 1) := by decide +kernel
theorem dX7_dig_29 : decode cX7_dig 29 = .ok (.istore 4, 2) := by decide +kernel
theorem dX7_dig_31 : decode cX7_dig 31 = .ok (.iconst 0, 1) := by decide +kernel
theorem dX7_dig_32 : decode cX7_dig 32 = .ok (.istore 5, 2) := by decide +kernel
theorem dX7_dig_34 : decode cX7_dig 34 = .ok (.iload 5, 2) := by decide +kernel
theorem dX7_dig_36 : decode cX7_dig 36 = .ok (.aload_n 0, 1) := by decide +kernel
theorem dX7_dig_37 : decode cX7_dig 37 = .ok (.getfield 9, 3) := by decide +kernel
theorem dX7_dig_40 : decode cX7_dig 40 = .ok (.iconst 1, 1) := by decide +kernel
theorem dX7_dig_41 : decode cX7_dig 41 = .ok (.iaload, 1) := by decide +kernel
theorem dX7_dig_42 : decode cX7_dig 42 = .ok (.if_icmp .ge 109, 3) := by decide +kernel
theorem dX7_dig_45 : decode cX7_dig 45 = .ok (.iload 5, 2) := by decide +kernel
theorem dX7_dig_47 : decode cX7_dig 47 = .ok (.iconst 1, 1) := by decide +kernel
theorem dX7_dig_48 : decode cX7_dig 48 = .ok (.iadd, 1) := by decide +kernel
theorem dX7_dig_49 : decode cX7_dig 49 = .ok (.istore 6, 2) := by decide +kernel
theorem dX7_dig_51 : decode cX7_dig 51 = .ok (.iload 6, 2) := by decide +kernel
theorem dX7_dig_53 : decode cX7_dig 53 = .ok (.aload_n 0, 1) := by decide +kernel
theorem dX7_dig_54 : decode cX7_dig 54 = .ok (.getfield 9, 3) := by decide +kernel
theorem dX7_dig_57 : decode cX7_dig 57 = .ok (.iconst 1, 1) := by decide +kernel
theorem dX7_dig_58 : decode cX7_dig 58 = .ok (.iaload, 1) := by decide +kernel
theorem dX7_dig_59 : decode cX7_dig 59 = .ok (.if_icmp .ge 86, 3) := by decide +kernel
theorem dX7_dig_62 : decode cX7_dig 62 = .ok (.aload_n 0, 1) := by decide +kernel
theorem dX7_dig_63 : decode cX7_dig 63 = .ok (.iload 5, 2) := by decide +kernel
theorem dX7_dig_65 : decode cX7_dig 65 = .ok (.iload 6, 2) := by decide +kernel
theorem dX7_dig_67 : decode cX7_dig 67 = .ok (.invokevirtual 186, 3) := by decide +kernel
theorem dX7_dig_70 : decode cX7_dig 70 = .ok (.ifCond .ne 69, 3) := by decide +kernel
theorem dX7_dig_73 : decode cX7_dig 73 = .ok (.aload_n 0, 1) := by decide +kernel
theorem dX7_dig_74 : decode cX7_dig 74 = .ok (.aload_n 0, 1) := by decide +kernel
theorem dX7_dig_75 : decode cX7_dig 75 = .ok (.getfield 9, 3) := by decide +kernel
theorem dX7_dig_78 : decode cX7_dig 78 = .ok (.iconst 2, 1) := by decide +kernel
theorem dX7_dig_79 : decode cX7_dig 79 = .ok (.iaload, 1) := by decide +kernel
theorem dX7_dig_80 : decode cX7_dig 80 = .ok (.iload 5, 2) := by decide +kernel
theorem dX7_dig_82 : decode cX7_dig 82 = .ok (.iload 6, 2) := by decide +kernel
theorem dX7_dig_84 : decode cX7_dig 84 = .ok (.iconst 3, 1) := by decide +kernel
theorem dX7_dig_85 : decode cX7_dig 85 = .ok (.invokevirtual 136, 3) := by decide +kernel
theorem dX7_dig_88 : decode cX7_dig 88 = .ok (.aload_n 0, 1) := by decide +kernel
theorem dX7_dig_89 : decode cX7_dig 89 = .ok (.getfield 9, 3) := by decide +kernel
theorem dX7_dig_92 : decode cX7_dig 92 = .ok (.iconst 2, 1) := by decide +kernel
theorem dX7_dig_93 : decode cX7_dig 93 = .ok (.dup2, 1) := by decide +kernel
theorem dX7_dig_94 : decode cX7_dig 94 = .ok (.iaload, 1) := by decide +kernel
theorem dX7_dig_95 : decode cX7_dig 95 = .ok (.iconst 1, 1) := by decide +kernel
theorem dX7_dig_96 : decode cX7_dig 96 = .ok (.iadd, 1) := by decide +kernel
theorem dX7_dig_97 : decode cX7_dig 97 = .ok (.iastore, 1) := by decide +kernel
theorem dX7_dig_98 : decode cX7_dig 98 = .ok (.aload_n 0, 1) := by decide +kernel
theorem dX7_dig_99 : decode cX7_dig 99 = .ok (.iload_n 1, 1) := by decide +kernel
theorem dX7_dig_100 : decode cX7_dig 100 = .ok (.invokevirtual 171, 3) := by decide +kernel
theorem dX7_dig_103 : decode cX7_dig 103 = .ok (.aload_n 0, 1) := by decide +kernel
theorem dX7_dig_104 : decode cX7_dig 104 = .ok (.getfield 9, 3) := by decide +kernel
theorem dX7_dig_107 : decode cX7_dig 107 = .ok (.iconst 5, 1) := by decide +kernel
theorem dX7_dig_108 : decode cX7_dig 108 = .ok (.iaload, 1) := by decide +kernel
theorem dX7_dig_109 : decode cX7_dig 109 = .ok (.istore 7, 2) := by decide +kernel
theorem dX7_dig_111 : decode cX7_dig 111 = .ok (.aload_n 0, 1) := by decide +kernel
theorem dX7_dig_112 : decode cX7_dig 112 = .ok (.invokevirtual 183, 3) := by decide +kernel
theorem dX7_dig_115 : decode cX7_dig 115 = .ok (.iload_n 3, 1) := by decide +kernel
theorem dX7_dig_116 : decode cX7_dig 116 = .ok (.ifCond .lt 10, 3) := by decide +kernel
theorem dX7_dig_119 : decode cX7_dig 119 = .ok (.iload 7, 2) := by decide +kernel
theorem dX7_dig_121 : decode cX7_dig 121 = .ok (.iload 4, 2) := by decide +kernel
theorem dX7_dig_123 : decode cX7_dig 123 = .ok (.if_icmp .ge 16, 3) := by decide +kernel
theorem dX7_dig_126 : decode cX7_dig 126 = .ok (.bipush 10, 2) := by decide +kernel
theorem dX7_dig_128 : decode cX7_dig 128 = .ok (.iload 5, 2) := by decide +kernel
theorem dX7_dig_130 : decode cX7_dig 130 = .ok (.imul, 1) := by decide +kernel
theorem dX7_dig_131 : decode cX7_dig 131 = .ok (.iload 6, 2) := by decide +kernel
theorem dX7_dig_133 : decode cX7_dig 133 = .ok (.iadd, 1) := by decide +kernel
theorem dX7_dig_134 : decode cX7_dig 134 = .ok (.istore_n 3, 1) := by decide +kernel
theorem dX7_dig_135 : decode cX7_dig 135 = .ok (.iload 7, 2) := by decide +kernel
theorem dX7_dig_137 : decode cX7_dig 137 = .ok (.istore 4, 2) := by decide +kernel
theorem dX7_dig_139 : decode cX7_dig 139 = .ok (.iinc 6 1, 3) := by decide +kernel
theorem dX7_dig_142 : decode cX7_dig 142 = .ok (.goto (-91), 3) := by decide +kernel
theorem dX7_dig_145 : decode cX7_dig 145 = .ok (.iinc 5 1, 3) := by decide +kernel
theorem dX7_dig_148 : decode cX7_dig 148 = .ok (.goto (-114), 3) := by decide +kernel
theorem dX7_dig_151 : decode cX7_dig 151 = .ok (.iload_n 3, 1) := by decide +kernel
theorem dX7_dig_152 : decode cX7_dig 152 = .ok (.ifCond .ge 8, 3) := by decide +kernel
theorem dX7_dig_155 : decode cX7_dig 155 = .ok (.ldc 81, 2) := by decide +kernel
theorem dX7_dig_157 : decode cX7_dig 157 = .ok (.goto 13, 3) := by decide +kernel
theorem dX7_dig_160 : decode cX7_dig 160 = .ok (.iload_n 2, 1) := by decide +kernel
theorem dX7_dig_161 : decode cX7_dig 161 = .ok (.ifCond .ne 7, 3) := by decide +kernel
theorem dX7_dig_164 : decode cX7_dig 164 = .ok (.iload_n 3, 1) := by decide +kernel
theorem dX7_dig_165 : decode cX7_dig 165 = .ok (.goto 5, 3) := by decide +kernel
theorem dX7_dig_168 : decode cX7_dig 168 = .ok (.iload 4, 2) := by decide +kernel
theorem dX7_dig_170 : decode cX7_dig 170 = .ok (.ireturn, 1) := by decide +kernel
theorem dX7_loser_0 : decode cX7_loser 0 = .ok (.iload_n 1, 1) := by decide +kernel
theorem dX7_loser_1 : decode cX7_loser 1 = .ok (.iconst 1, 1) := by decide +kernel
theorem dX7_loser_2 : decode cX7_loser 2 = .ok (.bipush 60, 2) := by decide +kernel
theorem dX7_loser_4 : decode cX7_loser 4 = .ok (.invokestatic 82, 3) := by decide +kernel
theorem dX7_loser_7 : decode cX7_loser 7 = .ok (.ifCond .eq 12, 3) := by decide +kernel
theorem dX7_loser_10 : decode cX7_loser 10 = .ok (.iload_n 2, 1) := by decide +kernel
theorem dX7_loser_11 : decode cX7_loser 11 = .ok (.iconst 0, 1) := by decide +kernel
theorem dX7_loser_12 : decode cX7_loser 12 = .ok (.iconst 1, 1) := by decide +kernel
theorem dX7_loser_13 : decode cX7_loser 13 = .ok (.invokestatic 82, 3) := by decide +kernel
theorem dX7_loser_16 : decode cX7_loser 16 = .ok (.ifCond .ne 6, 3) := by decide +kernel
theorem dX7_loser_19 : decode cX7_loser 19 = .ok (.ldc 86, 2) := by decide +kernel
theorem dX7_loser_21 : decode cX7_loser 21 = .ok (.ireturn, 1) := by decide +kernel
theorem dX7_loser_22 : decode cX7_loser 22 = .ok (.iconst 0, 1) := by decide +kernel
theorem dX7_loser_23 : decode cX7_loser 23 = .ok (.istore_n 3, 1) := by decide +kernel
theorem dX7_loser_24 : decode cX7_loser 24 = .ok (.iload_n 3, 1) := by decide +kernel
theorem dX7_loser_25 : decode cX7_loser 25 = .ok (.aload_n 0, 1) := by decide +kernel
theorem dX7_loser_26 : decode cX7_loser 26 = .ok (.getfield 9, 3) := by decide +kernel
theorem dX7_loser_29 : decode cX7_loser 29 = .ok (.iconst 1, 1) := by decide +kernel
theorem dX7_loser_30 : decode cX7_loser 30 = .ok (.iaload, 1) := by decide +kernel
theorem dX7_loser_31 : decode cX7_loser 31 = .ok (.if_icmp .ge 20, 3) := by decide +kernel
theorem dX7_loser_34 : decode cX7_loser 34 = .ok (.aload_n 0, 1) := by decide +kernel
theorem dX7_loser_35 : decode cX7_loser 35 = .ok (.getfield 25, 3) := by decide +kernel
theorem dX7_loser_38 : decode cX7_loser 38 = .ok (.iload_n 3, 1) := by decide +kernel
theorem dX7_loser_39 : decode cX7_loser 39 = .ok (.aload_n 0, 1) := by decide +kernel
theorem dX7_loser_40 : decode cX7_loser 40 = .ok (.iload_n 3, 1) := by decide +kernel
theorem dX7_loser_41 : decode cX7_loser 41 = .ok (.invokevirtual 96, 3) := by decide +kernel
theorem dX7_loser_44 : decode cX7_loser 44 = .ok (.iastore, 1) := by decide +kernel
theorem dX7_loser_45 : decode cX7_loser 45 = .ok (.iinc 3 1, 3) := by decide +kernel
theorem dX7_loser_48 : decode cX7_loser 48 = .ok (.goto (-24), 3) := by decide +kernel
theorem dX7_loser_51 : decode cX7_loser 51 = .ok (.aload_n 0, 1) := by decide +kernel
theorem dX7_loser_52 : decode cX7_loser 52 = .ok (.invokevirtual 180, 3) := by decide +kernel
theorem dX7_loser_55 : decode cX7_loser 55 = .ok (.aload_n 0, 1) := by decide +kernel
theorem dX7_loser_56 : decode cX7_loser 56 = .ok (.iload_n 1, 1) := by decide +kernel
theorem dX7_loser_57 : decode cX7_loser 57 = .ok (.invokevirtual 171, 3) := by decide +kernel
theorem dX7_loser_60 : decode cX7_loser 60 = .ok (.iconst (-1), 1) := by decide +kernel
theorem dX7_loser_61 : decode cX7_loser 61 = .ok (.istore_n 3, 1) := by decide +kernel
theorem dX7_loser_62 : decode cX7_loser 62 = .ok (.iconst 0, 1) := by decide +kernel
theorem dX7_loser_63 : decode cX7_loser 63 = .ok (.istore 4, 2) := by decide +kernel
theorem dX7_loser_65 : decode cX7_loser 65 = .ok (.iconst 0, 1) := by decide +kernel
theorem dX7_loser_66 : decode cX7_loser 66 = .ok (.istore 5, 2) := by decide +kernel
theorem dX7_loser_68 : decode cX7_loser 68 = .ok (.iload 5, 2) := by decide +kernel
theorem dX7_loser_70 : decode cX7_loser 70 = .ok (.aload_n 0, 1) := by decide +kernel
theorem dX7_loser_71 : decode cX7_loser 71 = .ok (.getfield 9, 3) := by decide +kernel
theorem dX7_loser_74 : decode cX7_loser 74 = .ok (.iconst 1, 1) := by decide +kernel
theorem dX7_loser_75 : decode cX7_loser 75 = .ok (.iaload, 1) := by decide +kernel
theorem dX7_loser_76 : decode cX7_loser 76 = .ok (.if_icmp .ge 43, 3) := by decide +kernel
theorem dX7_loser_79 : decode cX7_loser 79 = .ok (.aload_n 0, 1) := by decide +kernel
theorem dX7_loser_80 : decode cX7_loser 80 = .ok (.getfield 25, 3) := by decide +kernel
theorem dX7_loser_83 : decode cX7_loser 83 = .ok (.iload 5, 2) := by decide +kernel
theorem dX7_loser_85 : decode cX7_loser 85 = .ok (.iaload, 1) := by decide +kernel
theorem dX7_loser_86 : decode cX7_loser 86 = .ok (.aload_n 0, 1) := by decide +kernel
theorem dX7_loser_87 : decode cX7_loser 87 = .ok (.iload 5, 2) := by decide +kernel
theorem dX7_loser_89 : decode cX7_loser 89 = .ok (.invokevirtual 96, 3) := by decide +kernel
theorem dX7_loser_92 : decode cX7_loser 92 = .ok (.isub, 1) := by decide +kernel
theorem dX7_loser_93 : decode cX7_loser 93 = .ok (.istore 6, 2) := by decide +kernel
theorem dX7_loser_95 : decode cX7_loser 95 = .ok (.iload_n 3, 1) := by decide +kernel
theorem dX7_loser_96 : decode cX7_loser 96 = .ok (.ifCond .lt 10, 3) := by decide +kernel
theorem dX7_loser_99 : decode cX7_loser 99 = .ok (.iload 6, 2) := by decide +kernel
theorem dX7_loser_101 : decode cX7_loser 101 = .ok (.iload 4, 2) := by decide +kernel
theorem dX7_loser_103 : decode cX7_loser 103 = .ok (.if_icmp .le 10, 3) := by decide +kernel
theorem dX7_loser_106 : decode cX7_loser 106 = .ok (.iload 5, 2) := by decide +kernel
theorem dX7_loser_108 : decode cX7_loser 108 = .ok (.istore_n 3, 1) := by decide +kernel
theorem dX7_loser_109 : decode cX7_loser 109 = .ok (.iload 6, 2) := by decide +kernel
theorem dX7_loser_111 : decode cX7_loser 111 = .ok (.istore 4, 2) := by decide +kernel
theorem dX7_loser_113 : decode cX7_loser 113 = .ok (.iinc 5 1, 3) := by decide +kernel
theorem dX7_loser_116 : decode cX7_loser 116 = .ok (.goto (-48), 3) := by decide +kernel
theorem dX7_loser_119 : decode cX7_loser 119 = .ok (.aload_n 0, 1) := by decide +kernel
theorem dX7_loser_120 : decode cX7_loser 120 = .ok (.invokevirtual 183, 3) := by decide +kernel
theorem dX7_loser_123 : decode cX7_loser 123 = .ok (.iload_n 3, 1) := by decide +kernel
theorem dX7_loser_124 : decode cX7_loser 124 = .ok (.ifCond .ge 8, 3) := by decide +kernel
theorem dX7_loser_127 : decode cX7_loser 127 = .ok (.ldc 81, 2) := by decide +kernel
theorem dX7_loser_129 : decode cX7_loser 129 = .ok (.goto 13, 3) := by decide +kernel
theorem dX7_loser_132 : decode cX7_loser 132 = .ok (.iload_n 2, 1) := by decide +kernel
theorem dX7_loser_133 : decode cX7_loser 133 = .ok (.ifCond .ne 7, 3) := by decide +kernel
theorem dX7_loser_136 : decode cX7_loser 136 = .ok (.iload_n 3, 1) := by decide +kernel
theorem dX7_loser_137 : decode cX7_loser 137 = .ok (.goto 5, 3) := by decide +kernel
theorem dX7_loser_140 : decode cX7_loser 140 = .ok (.iload 4, 2) := by decide +kernel
theorem dX7_loser_142 : decode cX7_loser 142 = .ok (.ireturn, 1) := by decide +kernel
theorem dX7_othersBehind_0 : decode cX7_othersBehind 0 = .ok (.aload_n 0, 1) := by decide +kernel
theorem dX7_othersBehind_1 : decode cX7_othersBehind 1 = .ok (.iload_n 2, 1) := by decide +kernel
theorem dX7_othersBehind_2 : decode cX7_othersBehind 2 = .ok (.invokevirtual 171, 3) := by decide +kernel
theorem dX7_othersBehind_5 : decode cX7_othersBehind 5 = .ok (.aload_n 0, 1) := by decide +kernel
theorem dX7_othersBehind_6 : decode cX7_othersBehind 6 = .ok (.invokevirtual 174, 3) := by decide +kernel
theorem dX7_othersBehind_9 : decode cX7_othersBehind 9 = .ok (.aload_n 0, 1) := by decide +kernel
theorem dX7_othersBehind_10 : decode cX7_othersBehind 10 = .ok (.iload_n 1, 1) := by decide +kernel
theorem dX7_othersBehind_11 : decode cX7_othersBehind 11 = .ok (.invokevirtual 96, 3) := by decide +kernel
theorem dX7_othersBehind_14 : decode cX7_othersBehind 14 = .ok (.isub, 1) := by decide +kernel
theorem dX7_othersBehind_15 : decode cX7_othersBehind 15 = .ok (.istore_n 3, 1) := by decide +kernel
theorem dX7_othersBehind_16 : decode cX7_othersBehind 16 = .ok (.aload_n 0, 1) := by decide +kernel
theorem dX7_othersBehind_17 : decode cX7_othersBehind 17 = .ok (.invokevirtual 183, 3) := by decide +kernel
theorem dX7_othersBehind_20 : decode cX7_othersBehind 20 = .ok (.iload_n 3, 1) := by decide +kernel
theorem dX7_othersBehind_21 : decode cX7_othersBehind 21 = .ok (.ireturn, 1) := by decide +kernel
theorem dX7_tap_0 : decode cX7_tap 0 = .ok (.aload_n 0, 1) := by decide +kernel
theorem dX7_tap_1 : decode cX7_tap 1 = .ok (.iload_n 1, 1) := by decide +kernel
theorem dX7_tap_2 : decode cX7_tap 2 = .ok (.invokevirtual 112, 3) := by decide +kernel
theorem dX7_tap_5 : decode cX7_tap 5 = .ok (.ifCond .eq 13, 3) := by decide +kernel
theorem dX7_tap_8 : decode cX7_tap 8 = .ok (.iload_n 2, 1) := by decide +kernel
theorem dX7_tap_9 : decode cX7_tap 9 = .ok (.iconst 1, 1) := by decide +kernel
theorem dX7_tap_10 : decode cX7_tap 10 = .ok (.bipush 60, 2) := by decide +kernel
theorem dX7_tap_12 : decode cX7_tap 12 = .ok (.invokestatic 82, 3) := by decide +kernel
theorem dX7_tap_15 : decode cX7_tap 15 = .ok (.ifCond .ne 6, 3) := by decide +kernel
theorem dX7_tap_18 : decode cX7_tap 18 = .ok (.ldc 86, 2) := by decide +kernel
theorem dX7_tap_20 : decode cX7_tap 20 = .ok (.ireturn, 1) := by decide +kernel
theorem dX7_tap_21 : decode cX7_tap 21 = .ok (.aload_n 0, 1) := by decide +kernel
theorem dX7_tap_22 : decode cX7_tap 22 = .ok (.invokevirtual 180, 3) := by decide +kernel
theorem dX7_tap_25 : decode cX7_tap 25 = .ok (.aload_n 0, 1) := by decide +kernel
theorem dX7_tap_26 : decode cX7_tap 26 = .ok (.iload_n 1, 1) := by decide +kernel
theorem dX7_tap_27 : decode cX7_tap 27 = .ok (.iload_n 2, 1) := by decide +kernel
theorem dX7_tap_28 : decode cX7_tap 28 = .ok (.invokevirtual 189, 3) := by decide +kernel
theorem dX7_tap_31 : decode cX7_tap 31 = .ok (.istore_n 3, 1) := by decide +kernel
theorem dX7_tap_32 : decode cX7_tap 32 = .ok (.iconst 0, 1) := by decide +kernel
theorem dX7_tap_33 : decode cX7_tap 33 = .ok (.istore 4, 2) := by decide +kernel
theorem dX7_tap_35 : decode cX7_tap 35 = .ok (.iload 4, 2) := by decide +kernel
theorem dX7_tap_37 : decode cX7_tap 37 = .ok (.iconst 3, 1) := by decide +kernel
theorem dX7_tap_38 : decode cX7_tap 38 = .ok (.if_icmp .ge 27, 3) := by decide +kernel
theorem dX7_tap_41 : decode cX7_tap 41 = .ok (.aload_n 0, 1) := by decide +kernel
theorem dX7_tap_42 : decode cX7_tap 42 = .ok (.getfield 9, 3) := by decide +kernel
theorem dX7_tap_45 : decode cX7_tap 45 = .ok (.bipush 7, 2) := by decide +kernel
theorem dX7_tap_47 : decode cX7_tap 47 = .ok (.bipush 6, 2) := by decide +kernel
theorem dX7_tap_49 : decode cX7_tap 49 = .ok (.iload_n 1, 1) := by decide +kernel
theorem dX7_tap_50 : decode cX7_tap 50 = .ok (.imul, 1) := by decide +kernel
theorem dX7_tap_51 : decode cX7_tap 51 = .ok (.iadd, 1) := by decide +kernel
theorem dX7_tap_52 : decode cX7_tap 52 = .ok (.iconst 3, 1) := by decide +kernel
theorem dX7_tap_53 : decode cX7_tap 53 = .ok (.iadd, 1) := by decide +kernel
theorem dX7_tap_54 : decode cX7_tap 54 = .ok (.iload 4, 2) := by decide +kernel
theorem dX7_tap_56 : decode cX7_tap 56 = .ok (.iadd, 1) := by decide +kernel
theorem dX7_tap_57 : decode cX7_tap 57 = .ok (.iconst 0, 1) := by decide +kernel
theorem dX7_tap_58 : decode cX7_tap 58 = .ok (.iastore, 1) := by decide +kernel
theorem dX7_tap_59 : decode cX7_tap 59 = .ok (.iinc 4 1, 3) := by decide +kernel
theorem dX7_tap_62 : decode cX7_tap 62 = .ok (.goto (-27), 3) := by decide +kernel
theorem dX7_tap_65 : decode cX7_tap 65 = .ok (.iload_n 3, 1) := by decide +kernel
theorem dX7_tap_66 : decode cX7_tap 66 = .ok (.aload_n 0, 1) := by decide +kernel
theorem dX7_tap_67 : decode cX7_tap 67 = .ok (.iload_n 1, 1) := by decide +kernel
theorem dX7_tap_68 : decode cX7_tap 68 = .ok (.iload_n 2, 1) := by decide +kernel
theorem dX7_tap_69 : decode cX7_tap 69 = .ok (.invokevirtual 189, 3) := by decide +kernel
theorem dX7_tap_72 : decode cX7_tap 72 = .ok (.isub, 1) := by decide +kernel
theorem dX7_tap_73 : decode cX7_tap 73 = .ok (.ireturn, 1) := by decide +kernel
theorem dX7_offBy_0 : decode cX7_offBy 0 = .ok (.lconst 0, 1) := by decide +kernel
theorem dX7_offBy_1 : decode cX7_offBy 1 = .ok (.lstore_n 3, 1) := by decide +kernel
theorem dX7_offBy_2 : decode cX7_offBy 2 = .ok (.iconst 0, 1) := by decide +kernel
theorem dX7_offBy_3 : decode cX7_offBy 3 = .ok (.istore 5, 2) := by decide +kernel
theorem dX7_offBy_5 : decode cX7_offBy 5 = .ok (.iload 5, 2) := by decide +kernel
theorem dX7_offBy_7 : decode cX7_offBy 7 = .ok (.aload_n 0, 1) := by decide +kernel
theorem dX7_offBy_8 : decode cX7_offBy 8 = .ok (.getfield 57, 3) := by decide +kernel
theorem dX7_offBy_11 : decode cX7_offBy 11 = .ok (.iload_n 1, 1) := by decide +kernel
theorem dX7_offBy_12 : decode cX7_offBy 12 = .ok (.iaload, 1) := by decide +kernel
theorem dX7_offBy_13 : decode cX7_offBy 13 = .ok (.if_icmp .ge 68, 3) := by decide +kernel
theorem dX7_offBy_16 : decode cX7_offBy 16 = .ok (.aload_n 0, 1) := by decide +kernel
theorem dX7_offBy_17 : decode cX7_offBy 17 = .ok (.getfield 60, 3) := by decide +kernel
theorem dX7_offBy_20 : decode cX7_offBy 20 = .ok (.bipush 24, 2) := by decide +kernel
theorem dX7_offBy_22 : decode cX7_offBy 22 = .ok (.iload_n 1, 1) := by decide +kernel
theorem dX7_offBy_23 : decode cX7_offBy 23 = .ok (.imul, 1) := by decide +kernel
theorem dX7_offBy_24 : decode cX7_offBy 24 = .ok (.iload 5, 2) := by decide +kernel
theorem dX7_offBy_26 : decode cX7_offBy 26 = .ok (.iadd, 1) := by decide +kernel
theorem dX7_offBy_27 : decode cX7_offBy 27 = .ok (.iaload, 1) := by decide +kernel
theorem dX7_offBy_28 : decode cX7_offBy 28 = .ok (.istore 6, 2) := by decide +kernel
theorem dX7_offBy_30 : decode cX7_offBy 30 = .ok (.iload 6, 2) := by decide +kernel
theorem dX7_offBy_32 : decode cX7_offBy 32 = .ok (.i2l, 1) := by decide +kernel
theorem dX7_offBy_33 : decode cX7_offBy 33 = .ok (.aload_n 0, 1) := by decide +kernel
theorem dX7_offBy_34 : decode cX7_offBy 34 = .ok (.iload_n 2, 1) := by decide +kernel
theorem dX7_offBy_35 : decode cX7_offBy 35 = .ok (.invokevirtual 116, 3) := by decide +kernel
theorem dX7_offBy_38 : decode cX7_offBy 38 = .ok (.i2l, 1) := by decide +kernel
theorem dX7_offBy_39 : decode cX7_offBy 39 = .ok (.lsub, 1) := by decide +kernel
theorem dX7_offBy_40 : decode cX7_offBy 40 = .ok (.lstore 7, 2) := by decide +kernel
theorem dX7_offBy_42 : decode cX7_offBy 42 = .ok (.lload_n 3, 1) := by decide +kernel
theorem dX7_offBy_43 : decode cX7_offBy 43 = .ok (.iload 6, 2) := by decide +kernel
theorem dX7_offBy_45 : decode cX7_offBy 45 = .ok (.ldc 81, 2) := by decide +kernel
theorem dX7_offBy_47 : decode cX7_offBy 47 = .ok (.if_icmp .ne 7, 3) := by decide +kernel
theorem dX7_offBy_50 : decode cX7_offBy 50 = .ok (.lconst 0, 1) := by decide +kernel
theorem dX7_offBy_51 : decode cX7_offBy 51 = .ok (.goto 18, 3) := by decide +kernel
theorem dX7_offBy_54 : decode cX7_offBy 54 = .ok (.lload 7, 2) := by decide +kernel
theorem dX7_offBy_56 : decode cX7_offBy 56 = .ok (.lconst 0, 1) := by decide +kernel
theorem dX7_offBy_57 : decode cX7_offBy 57 = .ok (.lcmp, 1) := by decide +kernel
theorem dX7_offBy_58 : decode cX7_offBy 58 = .ok (.ifCond .ge 9, 3) := by decide +kernel
theorem dX7_offBy_61 : decode cX7_offBy 61 = .ok (.lload 7, 2) := by decide +kernel
theorem dX7_offBy_63 : decode cX7_offBy 63 = .ok (.lneg, 1) := by decide +kernel
theorem dX7_offBy_64 : decode cX7_offBy 64 = .ok (.goto 5, 3) := by decide +kernel
theorem dX7_offBy_67 : decode cX7_offBy 67 = .ok (.lload 7, 2) := by decide +kernel
theorem dX7_offBy_69 : decode cX7_offBy 69 = .ok (.ladd, 1) := by decide +kernel
theorem dX7_offBy_70 : decode cX7_offBy 70 = .ok (.lstore_n 3, 1) := by decide +kernel
theorem dX7_offBy_71 : decode cX7_offBy 71 = .ok (.aload_n 0, 1) := by decide +kernel
theorem dX7_offBy_72 : decode cX7_offBy 72 = .ok (.invokevirtual 168, 3) := by decide +kernel
theorem dX7_offBy_75 : decode cX7_offBy 75 = .ok (.iinc 5 1, 3) := by decide +kernel
theorem dX7_offBy_78 : decode cX7_offBy 78 = .ok (.goto (-73), 3) := by decide +kernel
theorem dX7_offBy_81 : decode cX7_offBy 81 = .ok (.aload_n 0, 1) := by decide +kernel
theorem dX7_offBy_82 : decode cX7_offBy 82 = .ok (.invokevirtual 183, 3) := by decide +kernel
theorem dX7_offBy_85 : decode cX7_offBy 85 = .ok (.lload_n 3, 1) := by decide +kernel
theorem dX7_offBy_86 : decode cX7_offBy 86 = .ok (.lreturn, 1) := by decide +kernel
theorem dX7_dug_0 : decode cX7_dug 0 = .ok (.iload_n 1, 1) := by decide +kernel
theorem dX7_dug_1 : decode cX7_dug 1 = .ok (.invokestatic 192, 3) := by decide +kernel
theorem dX7_dug_4 : decode cX7_dug 4 = .ok (.ifCond .eq 20, 3) := by decide +kernel
theorem dX7_dug_7 : decode cX7_dug 7 = .ok (.aload_n 0, 1) := by decide +kernel
theorem dX7_dug_8 : decode cX7_dug 8 = .ok (.iload_n 2, 1) := by decide +kernel
theorem dX7_dug_9 : decode cX7_dug 9 = .ok (.invokevirtual 112, 3) := by decide +kernel
theorem dX7_dug_12 : decode cX7_dug 12 = .ok (.ifCond .eq 12, 3) := by decide +kernel
theorem dX7_dug_15 : decode cX7_dug 15 = .ok (.iload_n 3, 1) := by decide +kernel
theorem dX7_dug_16 : decode cX7_dug 16 = .ok (.iconst 0, 1) := by decide +kernel
theorem dX7_dug_17 : decode cX7_dug 17 = .ok (.iconst 1, 1) := by decide +kernel
theorem dX7_dug_18 : decode cX7_dug 18 = .ok (.invokestatic 82, 3) := by decide +kernel
theorem dX7_dug_21 : decode cX7_dug 21 = .ok (.ifCond .ne 6, 3) := by decide +kernel
theorem dX7_dug_24 : decode cX7_dug 24 = .ok (.ldc 86, 2) := by decide +kernel
theorem dX7_dug_26 : decode cX7_dug 26 = .ok (.ireturn, 1) := by decide +kernel
theorem dX7_dug_27 : decode cX7_dug 27 = .ok (.aload_n 0, 1) := by decide +kernel
theorem dX7_dug_28 : decode cX7_dug 28 = .ok (.getfield 54, 3) := by decide +kernel
theorem dX7_dug_31 : decode cX7_dug 31 = .ok (.iload_n 1, 1) := by decide +kernel
theorem dX7_dug_32 : decode cX7_dug 32 = .ok (.iaload, 1) := by decide +kernel
theorem dX7_dug_33 : decode cX7_dug 33 = .ok (.ifCond .ge 6, 3) := by decide +kernel
theorem dX7_dug_36 : decode cX7_dug 36 = .ok (.ldc 195, 2) := by decide +kernel
theorem dX7_dug_38 : decode cX7_dug 38 = .ok (.ireturn, 1) := by decide +kernel
theorem dX7_dug_39 : decode cX7_dug 39 = .ok (.aload_n 0, 1) := by decide +kernel
theorem dX7_dug_40 : decode cX7_dug 40 = .ok (.invokevirtual 180, 3) := by decide +kernel
theorem dX7_dug_43 : decode cX7_dug 43 = .ok (.iconst (-1), 1) := by decide +kernel
theorem dX7_dug_44 : decode cX7_dug 44 = .ok (.istore 4, 2) := by decide +kernel
theorem dX7_dug_46 : decode cX7_dug 46 = .ok (.aload_n 0, 1) := by decide +kernel
theorem dX7_dug_47 : decode cX7_dug 47 = .ok (.iload_n 1, 1) := by decide +kernel
theorem dX7_dug_48 : decode cX7_dug 48 = .ok (.iload_n 2, 1) := by decide +kernel
theorem dX7_dug_49 : decode cX7_dug 49 = .ok (.invokevirtual 196, 3) := by decide +kernel
theorem dX7_dug_52 : decode cX7_dug 52 = .ok (.lstore 5, 2) := by decide +kernel
theorem dX7_dug_54 : decode cX7_dug 54 = .ok (.iconst 0, 1) := by decide +kernel
theorem dX7_dug_55 : decode cX7_dug 55 = .ok (.istore 7, 2) := by decide +kernel
theorem dX7_dug_57 : decode cX7_dug 57 = .ok (.iload 7, 2) := by decide +kernel
theorem dX7_dug_59 : decode cX7_dug 59 = .ok (.aload_n 0, 1) := by decide +kernel
theorem dX7_dug_60 : decode cX7_dug 60 = .ok (.getfield 9, 3) := by decide +kernel
theorem dX7_dug_63 : decode cX7_dug 63 = .ok (.iconst 2, 1) := by decide +kernel
theorem dX7_dug_64 : decode cX7_dug 64 = .ok (.iaload, 1) := by decide +kernel
theorem dX7_dug_65 : decode cX7_dug 65 = .ok (.if_icmp .ge 66, 3) := by decide +kernel
theorem dX7_dug_68 : decode cX7_dug 68 = .ok (.aload_n 0, 1) := by decide +kernel
theorem dX7_dug_69 : decode cX7_dug 69 = .ok (.getfield 9, 3) := by decide +kernel
theorem dX7_dug_72 : decode cX7_dug 72 = .ok (.bipush 55, 2) := by decide +kernel
theorem dX7_dug_74 : decode cX7_dug 74 = .ok (.iconst 4, 1) := by decide +kernel
theorem dX7_dug_75 : decode cX7_dug 75 = .ok (.iload 7, 2) := by decide +kernel
theorem dX7_dug_77 : decode cX7_dug 77 = .ok (.imul, 1) := by decide +kernel
theorem dX7_dug_78 : decode cX7_dug 78 = .ok (.iadd, 1) := by decide +kernel
theorem dX7_dug_79 : decode cX7_dug 79 = .ok (.iconst 3, 1) := by decide +kernel
theorem dX7_dug_80 : decode cX7_dug 80 = .ok (.iadd, 1) := by decide +kernel
theorem dX7_dug_81 : decode cX7_dug 81 = .ok (.iconst 1, 1) := by decide +kernel
theorem dX7_dug_82 : decode cX7_dug 82 = .ok (.iastore, 1) := by decide +kernel
