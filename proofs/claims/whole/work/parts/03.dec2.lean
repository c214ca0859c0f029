theorem dX6_init_0 : decode cX6_init 0 = .ok (.aload_n 0, 1) := by decide +kernel
theorem dX6_init_1 : decode cX6_init 1 = .ok (.invokespecial 1, 3) := by decide +kernel
theorem dX6_init_4 : decode cX6_init 4 = .ok (.aload_n 0, 1) := by decide +kernel
theorem dX6_init_5 : decode cX6_init 5 = .ok (.new 7, 3) := by decide +kernel
theorem dX6_init_8 : decode cX6_init 8 = .ok (.dup, 1) := by decide +kernel
theorem dX6_init_9 : decode cX6_init 9 = .ok (.invokespecial 9, 3) := by decide +kernel
theorem dX6_init_12 : decode cX6_init 12 = .ok (.putfield 10, 3) := by decide +kernel
theorem dX6_init_15 : decode cX6_init 15 = .ok (.aload_n 0, 1) := by decide +kernel
theorem dX6_init_16 : decode cX6_init 16 = .ok (.iconst 4, 1) := by decide +kernel
theorem dX6_init_17 : decode cX6_init 17 = .ok (.anewarray 16, 3) := by decide +kernel
theorem dX6_init_20 : decode cX6_init 20 = .ok (.putfield 18, 3) := by decide +kernel
theorem dX6_init_23 : decode cX6_init 23 = .ok (.aload_n 0, 1) := by decide +kernel
theorem dX6_init_24 : decode cX6_init 24 = .ok (.iconst 5, 1) := by decide +kernel
theorem dX6_init_25 : decode cX6_init 25 = .ok (.anewarray 22, 3) := by decide +kernel
theorem dX6_init_28 : decode cX6_init 28 = .ok (.putfield 24, 3) := by decide +kernel
theorem dX6_init_31 : decode cX6_init 31 = .ok (.aload_n 0, 1) := by decide +kernel
theorem dX6_init_32 : decode cX6_init 32 = .ok (.bipush 60, 2) := by decide +kernel
theorem dX6_init_34 : decode cX6_init 34 = .ok (.newarray .int, 2) := by decide +kernel
theorem dX6_init_36 : decode cX6_init 36 = .ok (.putfield 28, 3) := by decide +kernel
theorem dX6_init_39 : decode cX6_init 39 = .ok (.bipush 14, 2) := by decide +kernel
theorem dX6_init_41 : decode cX6_init 41 = .ok (.anewarray 32, 3) := by decide +kernel
theorem dX6_init_44 : decode cX6_init 44 = .ok (.astore_n 1, 1) := by decide +kernel
theorem dX6_init_45 : decode cX6_init 45 = .ok (.iconst 0, 1) := by decide +kernel
theorem dX6_init_46 : decode cX6_init 46 = .ok (.istore_n 2, 1) := by decide +kernel
theorem dX6_init_47 : decode cX6_init 47 = .ok (.iload_n 2, 1) := by decide +kernel
theorem dX6_init_48 : decode cX6_init 48 = .ok (.bipush 14, 2) := by decide +kernel
theorem dX6_init_50 : decode cX6_init 50 = .ok (.if_icmp .ge 19, 3) := by decide +kernel
theorem dX6_init_53 : decode cX6_init 53 = .ok (.aload_n 1, 1) := by decide +kernel
theorem dX6_init_54 : decode cX6_init 54 = .ok (.iload_n 2, 1) := by decide +kernel
theorem dX6_init_55 : decode cX6_init 55 = .ok (.new 32, 3) := by decide +kernel
theorem dX6_init_58 : decode cX6_init 58 = .ok (.dup, 1) := by decide +kernel
theorem dX6_init_59 : decode cX6_init 59 = .ok (.invokespecial 34, 3) := by decide +kernel
theorem dX6_init_62 : decode cX6_init 62 = .ok (.aastore, 1) := by decide +kernel
theorem dX6_init_63 : decode cX6_init 63 = .ok (.iinc 2 1, 3) := by decide +kernel
theorem dX6_init_66 : decode cX6_init 66 = .ok (.goto (-19), 3) := by decide +kernel
theorem dX6_init_69 : decode cX6_init 69 = .ok (.iconst 0, 1) := by decide +kernel
theorem dX6_init_70 : decode cX6_init 70 = .ok (.istore_n 2, 1) := by decide +kernel
theorem dX6_init_71 : decode cX6_init 71 = .ok (.iload_n 2, 1) := by decide +kernel
theorem dX6_init_72 : decode cX6_init 72 = .ok (.iconst 4, 1) := by decide +kernel
theorem dX6_init_73 : decode cX6_init 73 = .ok (.if_icmp .ge 22, 3) := by decide +kernel
theorem dX6_init_76 : decode cX6_init 76 = .ok (.aload_n 0, 1) := by decide +kernel
theorem dX6_init_77 : decode cX6_init 77 = .ok (.getfield 18, 3) := by decide +kernel
theorem dX6_init_80 : decode cX6_init 80 = .ok (.iload_n 2, 1) := by decide +kernel
theorem dX6_init_81 : decode cX6_init 81 = .ok (.new 16, 3) := by decide +kernel
theorem dX6_init_84 : decode cX6_init 84 = .ok (.dup, 1) := by decide +kernel
theorem dX6_init_85 : decode cX6_init 85 = .ok (.invokespecial 35, 3) := by decide +kernel
theorem dX6_init_88 : decode cX6_init 88 = .ok (.aastore, 1) := by decide +kernel
theorem dX6_init_89 : decode cX6_init 89 = .ok (.iinc 2 1, 3) := by decide +kernel
theorem dX6_init_92 : decode cX6_init 92 = .ok (.goto (-21), 3) := by decide +kernel
theorem dX6_init_95 : decode cX6_init 95 = .ok (.iconst 0, 1) := by decide +kernel
theorem dX6_init_96 : decode cX6_init 96 = .ok (.istore_n 2, 1) := by decide +kernel
theorem dX6_init_97 : decode cX6_init 97 = .ok (.iload_n 2, 1) := by decide +kernel
theorem dX6_init_98 : decode cX6_init 98 = .ok (.iconst 5, 1) := by decide +kernel
theorem dX6_init_99 : decode cX6_init 99 = .ok (.if_icmp .ge 22, 3) := by decide +kernel
theorem dX6_init_102 : decode cX6_init 102 = .ok (.aload_n 0, 1) := by decide +kernel
theorem dX6_init_103 : decode cX6_init 103 = .ok (.getfield 24, 3) := by decide +kernel
theorem dX6_init_106 : decode cX6_init 106 = .ok (.iload_n 2, 1) := by decide +kernel
theorem dX6_init_107 : decode cX6_init 107 = .ok (.new 22, 3) := by decide +kernel
theorem dX6_init_110 : decode cX6_init 110 = .ok (.dup, 1) := by decide +kernel
theorem dX6_init_111 : decode cX6_init 111 = .ok (.invokespecial 36, 3) := by decide +kernel
theorem dX6_init_114 : decode cX6_init 114 = .ok (.aastore, 1) := by decide +kernel
theorem dX6_init_115 : decode cX6_init 115 = .ok (.iinc 2 1, 3) := by decide +kernel
theorem dX6_init_118 : decode cX6_init 118 = .ok (.goto (-21), 3) := by decide +kernel
theorem dX6_init_121 : decode cX6_init 121 = .ok (.bipush 96, 2) := by decide +kernel
theorem dX6_init_123 : decode cX6_init 123 = .ok (.newarray .int, 2) := by decide +kernel
theorem dX6_init_125 : decode cX6_init 125 = .ok (.astore_n 2, 1) := by decide +kernel
theorem dX6_init_126 : decode cX6_init 126 = .ok (.aload_n 0, 1) := by decide +kernel
theorem dX6_init_127 : decode cX6_init 127 = .ok (.aload_n 1, 1) := by decide +kernel
theorem dX6_init_128 : decode cX6_init 128 = .ok (.putfield 37, 3) := by decide +kernel
theorem dX6_init_131 : decode cX6_init 131 = .ok (.aload_n 0, 1) := by decide +kernel
theorem dX6_init_132 : decode cX6_init 132 = .ok (.new 41, 3) := by decide +kernel
theorem dX6_init_135 : decode cX6_init 135 = .ok (.dup, 1) := by decide +kernel
theorem dX6_init_136 : decode cX6_init 136 = .ok (.aload_n 1, 1) := by decide +kernel
theorem dX6_init_137 : decode cX6_init 137 = .ok (.aload_n 2, 1) := by decide +kernel
theorem dX6_init_138 : decode cX6_init 138 = .ok (.invokespecial 43, 3) := by decide +kernel
theorem dX6_init_141 : decode cX6_init 141 = .ok (.putfield 46, 3) := by decide +kernel
theorem dX6_init_144 : decode cX6_init 144 = .ok (.aload_n 0, 1) := by decide +kernel
theorem dX6_init_145 : decode cX6_init 145 = .ok (.new 41, 3) := by decide +kernel
theorem dX6_init_148 : decode cX6_init 148 = .ok (.dup, 1) := by decide +kernel
theorem dX6_init_149 : decode cX6_init 149 = .ok (.aload_n 1, 1) := by decide +kernel
theorem dX6_init_150 : decode cX6_init 150 = .ok (.aload_n 2, 1) := by decide +kernel
theorem dX6_init_151 : decode cX6_init 151 = .ok (.invokespecial 43, 3) := by decide +kernel
theorem dX6_init_154 : decode cX6_init 154 = .ok (.putfield 50, 3) := by decide +kernel
theorem dX6_init_157 : decode cX6_init 157 = .ok (.aload_n 0, 1) := by decide +kernel
theorem dX6_init_158 : decode cX6_init 158 = .ok (.new 41, 3) := by decide +kernel
theorem dX6_init_161 : decode cX6_init 161 = .ok (.dup, 1) := by decide +kernel
theorem dX6_init_162 : decode cX6_init 162 = .ok (.aload_n 1, 1) := by decide +kernel
theorem dX6_init_163 : decode cX6_init 163 = .ok (.aload_n 2, 1) := by decide +kernel
theorem dX6_init_164 : decode cX6_init 164 = .ok (.invokespecial 43, 3) := by decide +kernel
theorem dX6_init_167 : decode cX6_init 167 = .ok (.putfield 53, 3) := by decide +kernel
theorem dX6_init_170 : decode cX6_init 170 = .ok (.return_, 1) := by decide +kernel
theorem dX6_cellar_0 : decode cX6_cellar 0 = .ok (.iload_n 1, 1) := by decide +kernel
theorem dX6_cellar_1 : decode cX6_cellar 1 = .ok (.invokestatic 56, 3) := by decide +kernel
theorem dX6_cellar_4 : decode cX6_cellar 4 = .ok (.ifCond .eq 19, 3) := by decide +kernel
theorem dX6_cellar_7 : decode cX6_cellar 7 = .ok (.iconst 1, 1) := by decide +kernel
theorem dX6_cellar_8 : decode cX6_cellar 8 = .ok (.iload_n 2, 1) := by decide +kernel
theorem dX6_cellar_9 : decode cX6_cellar 9 = .ok (.invokestatic 62, 3) := by decide +kernel
theorem dX6_cellar_12 : decode cX6_cellar 12 = .ok (.ifCond .eq 11, 3) := by decide +kernel
theorem dX6_cellar_15 : decode cX6_cellar 15 = .ok (.iconst 2, 1) := by decide +kernel
theorem dX6_cellar_16 : decode cX6_cellar 16 = .ok (.iload_n 3, 1) := by decide +kernel
theorem dX6_cellar_17 : decode cX6_cellar 17 = .ok (.invokestatic 62, 3) := by decide +kernel
theorem dX6_cellar_20 : decode cX6_cellar 20 = .ok (.ifCond .ne 6, 3) := by decide +kernel
theorem dX6_cellar_23 : decode cX6_cellar 23 = .ok (.ldc 66, 2) := by decide +kernel
theorem dX6_cellar_25 : decode cX6_cellar 25 = .ok (.ireturn, 1) := by decide +kernel
theorem dX6_cellar_26 : decode cX6_cellar 26 = .ok (.aload_n 0, 1) := by decide +kernel
theorem dX6_cellar_27 : decode cX6_cellar 27 = .ok (.getfield 46, 3) := by decide +kernel
theorem dX6_cellar_30 : decode cX6_cellar 30 = .ok (.getfield 67, 3) := by decide +kernel
theorem dX6_cellar_33 : decode cX6_cellar 33 = .ok (.bipush 8, 2) := by decide +kernel
theorem dX6_cellar_35 : decode cX6_cellar 35 = .ok (.if_icmp .ge 16, 3) := by decide +kernel
theorem dX6_cellar_38 : decode cX6_cellar 38 = .ok (.aload_n 0, 1) := by decide +kernel
theorem dX6_cellar_39 : decode cX6_cellar 39 = .ok (.getfield 46, 3) := by decide +kernel
theorem dX6_cellar_42 : decode cX6_cellar 42 = .ok (.iload_n 1, 1) := by decide +kernel
theorem dX6_cellar_43 : decode cX6_cellar 43 = .ok (.iload_n 2, 1) := by decide +kernel
theorem dX6_cellar_44 : decode cX6_cellar 44 = .ok (.iload_n 3, 1) := by decide +kernel
theorem dX6_cellar_45 : decode cX6_cellar 45 = .ok (.invokevirtual 71, 3) := by decide +kernel
theorem dX6_cellar_48 : decode cX6_cellar 48 = .ok (.goto 5, 3) := by decide +kernel
theorem dX6_cellar_51 : decode cX6_cellar 51 = .ok (.ldc 75, 2) := by decide +kernel
theorem dX6_cellar_53 : decode cX6_cellar 53 = .ok (.ireturn, 1) := by decide +kernel
theorem dX6_told_0 : decode cX6_told 0 = .ok (.aload_n 0, 1) := by decide +kernel
theorem dX6_told_1 : decode cX6_told 1 = .ok (.getfield 46, 3) := by decide +kernel
theorem dX6_told_4 : decode cX6_told 4 = .ok (.iload_n 1, 1) := by decide +kernel
theorem dX6_told_5 : decode cX6_told 5 = .ok (.invokevirtual 76, 3) := by decide +kernel
theorem dX6_told_8 : decode cX6_told 8 = .ok (.ifCond .ne 6, 3) := by decide +kernel
theorem dX6_told_11 : decode cX6_told 11 = .ok (.ldc 66, 2) := by decide +kernel
theorem dX6_told_13 : decode cX6_told 13 = .ok (.ireturn, 1) := by decide +kernel
theorem dX6_told_14 : decode cX6_told 14 = .ok (.iload_n 2, 1) := by decide +kernel
theorem dX6_told_15 : decode cX6_told 15 = .ok (.tableswitch 175 0 10 #[57, 67, 77, 87, 96, 106, 115, 136, 158, 158, 158], 57) := by decide +kernel
theorem dX6_told_72 : decode cX6_told 72 = .ok (.aload_n 0, 1) := by decide +kernel
theorem dX6_told_73 : decode cX6_told 73 = .ok (.getfield 46, 3) := by decide +kernel
theorem dX6_told_76 : decode cX6_told 76 = .ok (.getfield 79, 3) := by decide +kernel
theorem dX6_told_79 : decode cX6_told 79 = .ok (.iload_n 1, 1) := by decide +kernel
theorem dX6_told_80 : decode cX6_told 80 = .ok (.iaload, 1) := by decide +kernel
theorem dX6_told_81 : decode cX6_told 81 = .ok (.ireturn, 1) := by decide +kernel
theorem dX6_told_82 : decode cX6_told 82 = .ok (.aload_n 0, 1) := by decide +kernel
theorem dX6_told_83 : decode cX6_told 83 = .ok (.getfield 46, 3) := by decide +kernel
theorem dX6_told_86 : decode cX6_told 86 = .ok (.getfield 82, 3) := by decide +kernel
theorem dX6_told_89 : decode cX6_told 89 = .ok (.iload_n 1, 1) := by decide +kernel
theorem dX6_told_90 : decode cX6_told 90 = .ok (.iaload, 1) := by decide +kernel
theorem dX6_told_91 : decode cX6_told 91 = .ok (.ireturn, 1) := by decide +kernel
theorem dX6_told_92 : decode cX6_told 92 = .ok (.aload_n 0, 1) := by decide +kernel
theorem dX6_told_93 : decode cX6_told 93 = .ok (.getfield 46, 3) := by decide +kernel
theorem dX6_told_96 : decode cX6_told 96 = .ok (.getfield 85, 3) := by decide +kernel
theorem dX6_told_99 : decode cX6_told 99 = .ok (.iload_n 1, 1) := by decide +kernel
theorem dX6_told_100 : decode cX6_told 100 = .ok (.iaload, 1) := by decide +kernel
theorem dX6_told_101 : decode cX6_told 101 = .ok (.ireturn, 1) := by decide +kernel
theorem dX6_told_102 : decode cX6_told 102 = .ok (.aload_n 0, 1) := by decide +kernel
theorem dX6_told_103 : decode cX6_told 103 = .ok (.getfield 46, 3) := by decide +kernel
theorem dX6_told_106 : decode cX6_told 106 = .ok (.iload_n 1, 1) := by decide +kernel
theorem dX6_told_107 : decode cX6_told 107 = .ok (.invokevirtual 88, 3) := by decide +kernel
theorem dX6_told_110 : decode cX6_told 110 = .ok (.ireturn, 1) := by decide +kernel
theorem dX6_told_111 : decode cX6_told 111 = .ok (.aload_n 0, 1) := by decide +kernel
theorem dX6_told_112 : decode cX6_told 112 = .ok (.getfield 46, 3) := by decide +kernel
theorem dX6_told_115 : decode cX6_told 115 = .ok (.getfield 92, 3) := by decide +kernel
theorem dX6_told_118 : decode cX6_told 118 = .ok (.iload_n 1, 1) := by decide +kernel
theorem dX6_told_119 : decode cX6_told 119 = .ok (.iaload, 1) := by decide +kernel
theorem dX6_told_120 : decode cX6_told 120 = .ok (.ireturn, 1) := by decide +kernel
theorem dX6_told_121 : decode cX6_told 121 = .ok (.aload_n 0, 1) := by decide +kernel
theorem dX6_told_122 : decode cX6_told 122 = .ok (.getfield 46, 3) := by decide +kernel
theorem dX6_told_125 : decode cX6_told 125 = .ok (.iload_n 1, 1) := by decide +kernel
theorem dX6_told_126 : decode cX6_told 126 = .ok (.invokevirtual 95, 3) := by decide +kernel
theorem dX6_told_129 : decode cX6_told 129 = .ok (.ireturn, 1) := by decide +kernel
theorem dX6_told_130 : decode cX6_told 130 = .ok (.aload_n 0, 1) := by decide +kernel
theorem dX6_told_131 : decode cX6_told 131 = .ok (.getfield 46, 3) := by decide +kernel
theorem dX6_told_134 : decode cX6_told 134 = .ok (.getfield 79, 3) := by decide +kernel
theorem dX6_told_137 : decode cX6_told 137 = .ok (.iload_n 1, 1) := by decide +kernel
theorem dX6_told_138 : decode cX6_told 138 = .ok (.iaload, 1) := by decide +kernel
theorem dX6_told_139 : decode cX6_told 139 = .ok (.aload_n 0, 1) := by decide +kernel
theorem dX6_told_140 : decode cX6_told 140 = .ok (.getfield 46, 3) := by decide +kernel
theorem dX6_told_143 : decode cX6_told 143 = .ok (.iload_n 1, 1) := by decide +kernel
theorem dX6_told_144 : decode cX6_told 144 = .ok (.invokevirtual 88, 3) := by decide +kernel
theorem dX6_told_147 : decode cX6_told 147 = .ok (.invokestatic 98, 3) := by decide +kernel
theorem dX6_told_150 : decode cX6_told 150 = .ok (.ireturn, 1) := by decide +kernel
theorem dX6_told_151 : decode cX6_told 151 = .ok (.aload_n 0, 1) := by decide +kernel
theorem dX6_told_152 : decode cX6_told 152 = .ok (.getfield 46, 3) := by decide +kernel
theorem dX6_told_155 : decode cX6_told 155 = .ok (.getfield 79, 3) := by decide +kernel
theorem dX6_told_158 : decode cX6_told 158 = .ok (.iload_n 1, 1) := by decide +kernel
theorem dX6_told_159 : decode cX6_told 159 = .ok (.iaload, 1) := by decide +kernel
theorem dX6_told_160 : decode cX6_told 160 = .ok (.aload_n 0, 1) := by decide +kernel
theorem dX6_told_161 : decode cX6_told 161 = .ok (.getfield 46, 3) := by decide +kernel
theorem dX6_told_164 : decode cX6_told 164 = .ok (.getfield 85, 3) := by decide +kernel
theorem dX6_told_167 : decode cX6_told 167 = .ok (.iload_n 1, 1) := by decide +kernel
theorem dX6_told_168 : decode cX6_told 168 = .ok (.iaload, 1) := by decide +kernel
theorem dX6_told_169 : decode cX6_told 169 = .ok (.invokestatic 102, 3) := by decide +kernel
theorem dX6_told_172 : decode cX6_told 172 = .ok (.ireturn, 1) := by decide +kernel
theorem dX6_told_173 : decode cX6_told 173 = .ok (.aload_n 0, 1) := by decide +kernel
theorem dX6_told_174 : decode cX6_told 174 = .ok (.getfield 46, 3) := by decide +kernel
theorem dX6_told_177 : decode cX6_told 177 = .ok (.getfield 105, 3) := by decide +kernel
theorem dX6_told_180 : decode cX6_told 180 = .ok (.iload_n 1, 1) := by decide +kernel
theorem dX6_told_181 : decode cX6_told 181 = .ok (.iconst 3, 1) := by decide +kernel
theorem dX6_told_182 : decode cX6_told 182 = .ok (.imul, 1) := by decide +kernel
theorem dX6_told_183 : decode cX6_told 183 = .ok (.iload_n 2, 1) := by decide +kernel
theorem dX6_told_184 : decode cX6_told 184 = .ok (.iadd, 1) := by decide +kernel
theorem dX6_told_185 : decode cX6_told 185 = .ok (.bipush 8, 2) := by decide +kernel
theorem dX6_told_187 : decode cX6_told 187 = .ok (.isub, 1) := by decide +kernel
theorem dX6_told_188 : decode cX6_told 188 = .ok (.iaload, 1) := by decide +kernel
theorem dX6_told_189 : decode cX6_told 189 = .ok (.ireturn, 1) := by decide +kernel
theorem dX6_told_190 : decode cX6_told 190 = .ok (.ldc 66, 2) := by decide +kernel
theorem dX6_told_192 : decode cX6_told 192 = .ok (.ireturn, 1) := by decide +kernel
theorem dX6_takes_0 : decode cX6_takes 0 = .ok (.aload_n 0, 1) := by decide +kernel
theorem dX6_takes_1 : decode cX6_takes 1 = .ok (.getfield 46, 3) := by decide +kernel
theorem dX6_takes_4 : decode cX6_takes 4 = .ok (.iload_n 1, 1) := by decide +kernel
theorem dX6_takes_5 : decode cX6_takes 5 = .ok (.invokevirtual 76, 3) := by decide +kernel
theorem dX6_takes_8 : decode cX6_takes 8 = .ok (.ifCond .eq 14, 3) := by decide +kernel
theorem dX6_takes_11 : decode cX6_takes 11 = .ok (.iload_n 2, 1) := by decide +kernel
theorem dX6_takes_12 : decode cX6_takes 12 = .ok (.iconst 0, 1) := by decide +kernel
theorem dX6_takes_13 : decode cX6_takes 13 = .ok (.sipush 9999, 3) := by decide +kernel
theorem dX6_takes_16 : decode cX6_takes 16 = .ok (.invokestatic 108, 3) := by decide +kernel
theorem dX6_takes_19 : decode cX6_takes 19 = .ok (.ifCond .ne 6, 3) := by decide +kernel
theorem dX6_takes_22 : decode cX6_takes 22 = .ok (.ldc 66, 2) := by decide +kernel
theorem dX6_takes_24 : decode cX6_takes 24 = .ok (.ireturn, 1) := by decide +kernel
theorem dX6_takes_25 : decode cX6_takes 25 = .ok (.aload_n 0, 1) := by decide +kernel
theorem dX6_takes_26 : decode cX6_takes 26 = .ok (.getfield 46, 3) := by decide +kernel
theorem dX6_takes_29 : decode cX6_takes 29 = .ok (.getfield 79, 3) := by decide +kernel
theorem dX6_takes_32 : decode cX6_takes 32 = .ok (.iload_n 1, 1) := by decide +kernel
theorem dX6_takes_33 : decode cX6_takes 33 = .ok (.iaload, 1) := by decide +kernel
theorem dX6_takes_34 : decode cX6_takes 34 = .ok (.iload_n 2, 1) := by decide +kernel
theorem dX6_takes_35 : decode cX6_takes 35 = .ok (.invokestatic 112, 3) := by decide +kernel
theorem dX6_takes_38 : decode cX6_takes 38 = .ok (.ireturn, 1) := by decide +kernel
theorem dX6_as_0 : decode cX6_as 0 = .ok (.aload_n 0, 1) := by decide +kernel
theorem dX6_as_1 : decode cX6_as 1 = .ok (.getfield 46, 3) := by decide +kernel
theorem dX6_as_4 : decode cX6_as 4 = .ok (.iload_n 1, 1) := by decide +kernel
theorem dX6_as_5 : decode cX6_as 5 = .ok (.invokevirtual 76, 3) := by decide +kernel
theorem dX6_as_8 : decode cX6_as 8 = .ok (.ifCond .eq 10, 3) := by decide +kernel
theorem dX6_as_11 : decode cX6_as 11 = .ok (.iload_n 2, 1) := by decide +kernel
theorem dX6_as_12 : decode cX6_as 12 = .ok (.invokestatic 56, 3) := by decide +kernel
theorem dX6_as_15 : decode cX6_as 15 = .ok (.ifCond .ne 6, 3) := by decide +kernel
theorem dX6_as_18 : decode cX6_as 18 = .ok (.ldc 66, 2) := by decide +kernel
theorem dX6_as_20 : decode cX6_as 20 = .ok (.ireturn, 1) := by decide +kernel
theorem dX6_as_21 : decode cX6_as 21 = .ok (.aload_n 0, 1) := by decide +kernel
theorem dX6_as_22 : decode cX6_as 22 = .ok (.getfield 46, 3) := by decide +kernel
theorem dX6_as_25 : decode cX6_as 25 = .ok (.getfield 79, 3) := by decide +kernel
theorem dX6_as_28 : decode cX6_as 28 = .ok (.iload_n 1, 1) := by decide +kernel
theorem dX6_as_29 : decode cX6_as 29 = .ok (.iaload, 1) := by decide +kernel
theorem dX6_as_30 : decode cX6_as 30 = .ok (.iload_n 2, 1) := by decide +kernel
theorem dX6_as_31 : decode cX6_as 31 = .ok (.invokestatic 115, 3) := by decide +kernel
theorem dX6_as_34 : decode cX6_as 34 = .ok (.ifCond .eq 15, 3) := by decide +kernel
theorem dX6_as_37 : decode cX6_as 37 = .ok (.aload_n 0, 1) := by decide +kernel
theorem dX6_as_38 : decode cX6_as 38 = .ok (.getfield 46, 3) := by decide +kernel
theorem dX6_as_41 : decode cX6_as 41 = .ok (.getfield 85, 3) := by decide +kernel
theorem dX6_as_44 : decode cX6_as 44 = .ok (.iload_n 1, 1) := by decide +kernel
theorem dX6_as_45 : decode cX6_as 45 = .ok (.iaload, 1) := by decide +kernel
theorem dX6_as_46 : decode cX6_as 46 = .ok (.goto 5, 3) := by decide +kernel
theorem dX6_as_49 : decode cX6_as 49 = .ok (.ldc 118, 2) := by decide +kernel
theorem dX6_as_51 : decode cX6_as 51 = .ok (.ireturn, 1) := by decide +kernel
theorem dX6_turns_0 : decode cX6_turns 0 = .ok (.aload_n 0, 1) := by decide +kernel
theorem dX6_turns_1 : decode cX6_turns 1 = .ok (.getfield 46, 3) := by decide +kernel
theorem dX6_turns_4 : decode cX6_turns 4 = .ok (.iload_n 1, 1) := by decide +kernel
theorem dX6_turns_5 : decode cX6_turns 5 = .ok (.invokevirtual 76, 3) := by decide +kernel
theorem dX6_turns_8 : decode cX6_turns 8 = .ok (.ifCond .eq 10, 3) := by decide +kernel
theorem dX6_turns_11 : decode cX6_turns 11 = .ok (.iload_n 2, 1) := by decide +kernel
theorem dX6_turns_12 : decode cX6_turns 12 = .ok (.invokestatic 56, 3) := by decide +kernel
theorem dX6_turns_15 : decode cX6_turns 15 = .ok (.ifCond .ne 6, 3) := by decide +kernel
theorem dX6_turns_18 : decode cX6_turns 18 = .ok (.ldc 66, 2) := by decide +kernel
theorem dX6_turns_20 : decode cX6_turns 20 = .ok (.ireturn, 1) := by decide +kernel
theorem dX6_turns_21 : decode cX6_turns 21 = .ok (.aload_n 0, 1) := by decide +kernel
theorem dX6_turns_22 : decode cX6_turns 22 = .ok (.getfield 46, 3) := by decide +kernel
theorem dX6_turns_25 : decode cX6_turns 25 = .ok (.getfield 79, 3) := by decide +kernel
theorem dX6_turns_28 : decode cX6_turns 28 = .ok (.iload_n 1, 1) := by decide +kernel
theorem dX6_turns_29 : decode cX6_turns 29 = .ok (.iaload, 1) := by decide +kernel
theorem dX6_turns_30 : decode cX6_turns 30 = .ok (.istore_n 3, 1) := by decide +kernel
theorem dX6_turns_31 : decode cX6_turns 31 = .ok (.aload_n 0, 1) := by decide +kernel
theorem dX6_turns_32 : decode cX6_turns 32 = .ok (.getfield 46, 3) := by decide +kernel
theorem dX6_turns_35 : decode cX6_turns 35 = .ok (.getfield 79, 3) := by decide +kernel
theorem dX6_turns_38 : decode cX6_turns 38 = .ok (.iload_n 1, 1) := by decide +kernel
theorem dX6_turns_39 : decode cX6_turns 39 = .ok (.iload_n 2, 1) := by decide +kernel
theorem dX6_turns_40 : decode cX6_turns 40 = .ok (.iastore, 1) := by decide +kernel
theorem dX6_turns_41 : decode cX6_turns 41 = .ok (.aload_n 0, 1) := by decide +kernel
theorem dX6_turns_42 : decode cX6_turns 42 = .ok (.getfield 46, 3) := by decide +kernel
theorem dX6_turns_45 : decode cX6_turns 45 = .ok (.iload_n 1, 1) := by decide +kernel
theorem dX6_turns_46 : decode cX6_turns 46 = .ok (.invokevirtual 119, 3) := by decide +kernel
theorem dX6_turns_49 : decode cX6_turns 49 = .ok (.iload_n 3, 1) := by decide +kernel
theorem dX6_turns_50 : decode cX6_turns 50 = .ok (.ireturn, 1) := by decide +kernel
theorem dX6_set_0 : decode cX6_set 0 = .ok (.aload_n 0, 1) := by decide +kernel
theorem dX6_set_1 : decode cX6_set 1 = .ok (.getfield 46, 3) := by decide +kernel
theorem dX6_set_4 : decode cX6_set 4 = .ok (.iload_n 1, 1) := by decide +kernel
theorem dX6_set_5 : decode cX6_set 5 = .ok (.invokevirtual 76, 3) := by decide +kernel
theorem dX6_set_8 : decode cX6_set 8 = .ok (.ifCond .eq 11, 3) := by decide +kernel
theorem dX6_set_11 : decode cX6_set 11 = .ok (.iload_n 2, 1) := by decide +kernel
theorem dX6_set_12 : decode cX6_set 12 = .ok (.iload_n 3, 1) := by decide +kernel
theorem dX6_set_13 : decode cX6_set 13 = .ok (.invokestatic 62, 3) := by decide +kernel
theorem dX6_set_16 : decode cX6_set 16 = .ok (.ifCond .ne 6, 3) := by decide +kernel
theorem dX6_set_19 : decode cX6_set 19 = .ok (.ldc 66, 2) := by decide +kernel
theorem dX6_set_21 : decode cX6_set 21 = .ok (.ireturn, 1) := by decide +kernel
theorem dX6_set_22 : decode cX6_set 22 = .ok (.aload_n 0, 1) := by decide +kernel
theorem dX6_set_23 : decode cX6_set 23 = .ok (.iload_n 1, 1) := by decide +kernel
theorem dX6_set_24 : decode cX6_set 24 = .ok (.iload_n 2, 1) := by decide +kernel
theorem dX6_set_25 : decode cX6_set 25 = .ok (.invokevirtual 123, 3) := by decide +kernel
theorem dX6_set_28 : decode cX6_set 28 = .ok (.istore 4, 2) := by decide +kernel
theorem dX6_set_30 : decode cX6_set 30 = .ok (.iload_n 2, 1) := by decide +kernel
theorem dX6_set_31 : decode cX6_set 31 = .ok (.iconst 1, 1) := by decide +kernel
theorem dX6_set_32 : decode cX6_set 32 = .ok (.if_icmp .ne 16, 3) := by decide +kernel
theorem dX6_set_35 : decode cX6_set 35 = .ok (.aload_n 0, 1) := by decide +kernel
theorem dX6_set_36 : decode cX6_set 36 = .ok (.getfield 46, 3) := by decide +kernel
theorem dX6_set_39 : decode cX6_set 39 = .ok (.getfield 82, 3) := by decide +kernel
theorem dX6_set_42 : decode cX6_set 42 = .ok (.iload_n 1, 1) := by decide +kernel
theorem dX6_set_43 : decode cX6_set 43 = .ok (.iload_n 3, 1) := by decide +kernel
theorem dX6_set_44 : decode cX6_set 44 = .ok (.iastore, 1) := by decide +kernel
theorem dX6_set_45 : decode cX6_set 45 = .ok (.goto 38, 3) := by decide +kernel
theorem dX6_set_48 : decode cX6_set 48 = .ok (.iload_n 2, 1) := by decide +kernel
theorem dX6_set_49 : decode cX6_set 49 = .ok (.iconst 2, 1) := by decide +kernel
theorem dX6_set_50 : decode cX6_set 50 = .ok (.if_icmp .ne 16, 3) := by decide +kernel
theorem dX6_set_53 : decode cX6_set 53 = .ok (.aload_n 0, 1) := by decide +kernel
theorem dX6_set_54 : decode cX6_set 54 = .ok (.getfield 46, 3) := by decide +kernel
theorem dX6_set_57 : decode cX6_set 57 = .ok (.getfield 85, 3) := by decide +kernel
theorem dX6_set_60 : decode cX6_set 60 = .ok (.iload_n 1, 1) := by decide +kernel
theorem dX6_set_61 : decode cX6_set 61 = .ok (.iload_n 3, 1) := by decide +kernel
theorem dX6_set_62 : decode cX6_set 62 = .ok (.iastore, 1) := by decide +kernel
theorem dX6_set_63 : decode cX6_set 63 = .ok (.goto 20, 3) := by decide +kernel
theorem dX6_set_66 : decode cX6_set 66 = .ok (.aload_n 0, 1) := by decide +kernel
theorem dX6_set_67 : decode cX6_set 67 = .ok (.getfield 46, 3) := by decide +kernel
theorem dX6_set_70 : decode cX6_set 70 = .ok (.getfield 105, 3) := by decide +kernel
theorem dX6_set_73 : decode cX6_set 73 = .ok (.iload_n 1, 1) := by decide +kernel
theorem dX6_set_74 : decode cX6_set 74 = .ok (.iconst 3, 1) := by decide +kernel
theorem dX6_set_75 : decode cX6_set 75 = .ok (.imul, 1) := by decide +kernel
theorem dX6_set_76 : decode cX6_set 76 = .ok (.iload_n 2, 1) := by decide +kernel
theorem dX6_set_77 : decode cX6_set 77 = .ok (.iadd, 1) := by decide +kernel
theorem dX6_set_78 : decode cX6_set 78 = .ok (.bipush 8, 2) := by decide +kernel
theorem dX6_set_80 : decode cX6_set 80 = .ok (.isub, 1) := by decide +kernel
theorem dX6_set_81 : decode cX6_set 81 = .ok (.iload_n 3, 1) := by decide +kernel
theorem dX6_set_82 : decode cX6_set 82 = .ok (.iastore, 1) := by decide +kernel
theorem dX6_set_83 : decode cX6_set 83 = .ok (.aload_n 0, 1) := by decide +kernel
theorem dX6_set_84 : decode cX6_set 84 = .ok (.getfield 46, 3) := by decide +kernel
theorem dX6_set_87 : decode cX6_set 87 = .ok (.iload_n 1, 1) := by decide +kernel
theorem dX6_set_88 : decode cX6_set 88 = .ok (.invokevirtual 119, 3) := by decide +kernel
theorem dX6_set_91 : decode cX6_set 91 = .ok (.iload 4, 2) := by decide +kernel
theorem dX6_set_93 : decode cX6_set 93 = .ok (.ireturn, 1) := by decide +kernel
theorem dX6_pipe_0 : decode cX6_pipe 0 = .ok (.aload_n 0, 1) := by decide +kernel
theorem dX6_pipe_1 : decode cX6_pipe 1 = .ok (.getfield 46, 3) := by decide +kernel
theorem dX6_pipe_4 : decode cX6_pipe 4 = .ok (.iload_n 1, 1) := by decide +kernel
theorem dX6_pipe_5 : decode cX6_pipe 5 = .ok (.invokevirtual 76, 3) := by decide +kernel
theorem dX6_pipe_8 : decode cX6_pipe 8 = .ok (.ifCond .eq 29, 3) := by decide +kernel
theorem dX6_pipe_11 : decode cX6_pipe 11 = .ok (.aload_n 0, 1) := by decide +kernel
theorem dX6_pipe_12 : decode cX6_pipe 12 = .ok (.getfield 46, 3) := by decide +kernel
theorem dX6_pipe_15 : decode cX6_pipe 15 = .ok (.iload_n 2, 1) := by decide +kernel
theorem dX6_pipe_16 : decode cX6_pipe 16 = .ok (.invokevirtual 76, 3) := by decide +kernel
theorem dX6_pipe_19 : decode cX6_pipe 19 = .ok (.ifCond .eq 18, 3) := by decide +kernel
theorem dX6_pipe_22 : decode cX6_pipe 22 = .ok (.iload_n 1, 1) := by decide +kernel
theorem dX6_pipe_23 : decode cX6_pipe 23 = .ok (.iload_n 2, 1) := by decide +kernel
theorem dX6_pipe_24 : decode cX6_pipe 24 = .ok (.if_icmp .eq 13, 3) := by decide +kernel
theorem dX6_pipe_27 : decode cX6_pipe 27 = .ok (.iload_n 3, 1) := by decide +kernel
theorem dX6_pipe_28 : decode cX6_pipe 28 = .ok (.iconst 1, 1) := by decide +kernel
theorem dX6_pipe_29 : decode cX6_pipe 29 = .ok (.bipush 9, 2) := by decide +kernel
theorem dX6_pipe_31 : decode cX6_pipe 31 = .ok (.invokestatic 108, 3) := by decide +kernel
theorem dX6_pipe_34 : decode cX6_pipe 34 = .ok (.ifCond .ne 6, 3) := by decide +kernel
theorem dX6_pipe_37 : decode cX6_pipe 37 = .ok (.ldc 66, 2) := by decide +kernel
theorem dX6_pipe_39 : decode cX6_pipe 39 = .ok (.ireturn, 1) := by decide +kernel
theorem dX6_pipe_40 : decode cX6_pipe 40 = .ok (.aload_n 0, 1) := by decide +kernel
theorem dX6_pipe_41 : decode cX6_pipe 41 = .ok (.getfield 46, 3) := by decide +kernel
theorem dX6_pipe_44 : decode cX6_pipe 44 = .ok (.getfield 126, 3) := by decide +kernel
theorem dX6_pipe_47 : decode cX6_pipe 47 = .ok (.bipush 12, 2) := by decide +kernel
theorem dX6_pipe_49 : decode cX6_pipe 49 = .ok (.if_icmp .ge 16, 3) := by decide +kernel
theorem dX6_pipe_52 : decode cX6_pipe 52 = .ok (.aload_n 0, 1) := by decide +kernel
theorem dX6_pipe_53 : decode cX6_pipe 53 = .ok (.getfield 46, 3) := by decide +kernel
theorem dX6_pipe_56 : decode cX6_pipe 56 = .ok (.iload_n 1, 1) := by decide +kernel
theorem dX6_pipe_57 : decode cX6_pipe 57 = .ok (.iload_n 2, 1) := by decide +kernel
theorem dX6_pipe_58 : decode cX6_pipe 58 = .ok (.iload_n 3, 1) := by decide +kernel
theorem dX6_pipe_59 : decode cX6_pipe 59 = .ok (.invokevirtual 129, 3) := by decide +kernel
theorem dX6_pipe_62 : decode cX6_pipe 62 = .ok (.goto 5, 3) := by decide +kernel
theorem dX6_pipe_65 : decode cX6_pipe 65 = .ok (.ldc 75, 2) := by decide +kernel
theorem dX6_pipe_67 : decode cX6_pipe 67 = .ok (.ireturn, 1) := by decide +kernel
theorem dX6_pipeOf_0 : decode cX6_pipeOf 0 = .ok (.aload_n 0, 1) := by decide +kernel
theorem dX6_pipeOf_1 : decode cX6_pipeOf 1 = .ok (.getfield 46, 3) := by decide +kernel
theorem dX6_pipeOf_4 : decode cX6_pipeOf 4 = .ok (.iload_n 1, 1) := by decide +kernel
theorem dX6_pipeOf_5 : decode cX6_pipeOf 5 = .ok (.invokevirtual 132, 3) := by decide +kernel
theorem dX6_pipeOf_8 : decode cX6_pipeOf 8 = .ok (.ifCond .ne 6, 3) := by decide +kernel
theorem dX6_pipeOf_11 : decode cX6_pipeOf 11 = .ok (.ldc 66, 2) := by decide +kernel
theorem dX6_pipeOf_13 : decode cX6_pipeOf 13 = .ok (.ireturn, 1) := by decide +kernel
theorem dX6_pipeOf_14 : decode cX6_pipeOf 14 = .ok (.iload_n 2, 1) := by decide +kernel
theorem dX6_pipeOf_15 : decode cX6_pipeOf 15 = .ok (.tableswitch 82 0 4 #[33, 43, 53, 63, 73], 33) := by decide +kernel
theorem dX6_pipeOf_48 : decode cX6_pipeOf 48 = .ok (.aload_n 0, 1) := by decide +kernel
theorem dX6_pipeOf_49 : decode cX6_pipeOf 49 = .ok (.getfield 46, 3) := by decide +kernel
theorem dX6_pipeOf_52 : decode cX6_pipeOf 52 = .ok (.getfield 135, 3) := by decide +kernel
theorem dX6_pipeOf_55 : decode cX6_pipeOf 55 = .ok (.iload_n 1, 1) := by decide +kernel
theorem dX6_pipeOf_56 : decode cX6_pipeOf 56 = .ok (.iaload, 1) := by decide +kernel
theorem dX6_pipeOf_57 : decode cX6_pipeOf 57 = .ok (.ireturn, 1) := by decide +kernel
theorem dX6_pipeOf_58 : decode cX6_pipeOf 58 = .ok (.aload_n 0, 1) := by decide +kernel
theorem dX6_pipeOf_59 : decode cX6_pipeOf 59 = .ok (.getfield 46, 3) := by decide +kernel
theorem dX6_pipeOf_62 : decode cX6_pipeOf 62 = .ok (.getfield 138, 3) := by decide +kernel
theorem dX6_pipeOf_65 : decode cX6_pipeOf 65 = .ok (.iload_n 1, 1) := by decide +kernel
theorem dX6_pipeOf_66 : decode cX6_pipeOf 66 = .ok (.iaload, 1) := by decide +kernel
theorem dX6_pipeOf_67 : decode cX6_pipeOf 67 = .ok (.ireturn, 1) := by decide +kernel
theorem dX6_pipeOf_68 : decode cX6_pipeOf 68 = .ok (.aload_n 0, 1) := by decide +kernel
theorem dX6_pipeOf_69 : decode cX6_pipeOf 69 = .ok (.getfield 46, 3) := by decide +kernel
theorem dX6_pipeOf_72 : decode cX6_pipeOf 72 = .ok (.getfield 141, 3) := by decide +kernel
theorem dX6_pipeOf_75 : decode cX6_pipeOf 75 = .ok (.iload_n 1, 1) := by decide +kernel
theorem dX6_pipeOf_76 : decode cX6_pipeOf 76 = .ok (.iaload, 1) := by decide +kernel
theorem dX6_pipeOf_77 : decode cX6_pipeOf 77 = .ok (.ireturn, 1) := by decide +kernel
theorem dX6_pipeOf_78 : decode cX6_pipeOf 78 = .ok (.aload_n 0, 1) := by decide +kernel
theorem dX6_pipeOf_79 : decode cX6_pipeOf 79 = .ok (.getfield 46, 3) := by decide +kernel
theorem dX6_pipeOf_82 : decode cX6_pipeOf 82 = .ok (.getfield 144, 3) := by decide +kernel
theorem dX6_pipeOf_85 : decode cX6_pipeOf 85 = .ok (.iload_n 1, 1) := by decide +kernel
theorem dX6_pipeOf_86 : decode cX6_pipeOf 86 = .ok (.iaload, 1) := by decide +kernel
theorem dX6_pipeOf_87 : decode cX6_pipeOf 87 = .ok (.ireturn, 1) := by decide +kernel
theorem dX6_pipeOf_88 : decode cX6_pipeOf 88 = .ok (.aload_n 0, 1) := by decide +kernel
theorem dX6_pipeOf_89 : decode cX6_pipeOf 89 = .ok (.getfield 46, 3) := by decide +kernel
theorem dX6_pipeOf_92 : decode cX6_pipeOf 92 = .ok (.iload_n 1, 1) := by decide +kernel
theorem dX6_pipeOf_93 : decode cX6_pipeOf 93 = .ok (.invokevirtual 147, 3) := by decide +kernel
theorem dX6_pipeOf_96 : decode cX6_pipeOf 96 = .ok (.ireturn, 1) := by decide +kernel
theorem dX6_pipeOf_97 : decode cX6_pipeOf 97 = .ok (.ldc 66, 2) := by decide +kernel
theorem dX6_pipeOf_99 : decode cX6_pipeOf 99 = .ok (.ireturn, 1) := by decide +kernel
theorem dX6_cork_0 : decode cX6_cork 0 = .ok (.aload_n 0, 1) := by decide +kernel
theorem dX6_cork_1 : decode cX6_cork 1 = .ok (.getfield 46, 3) := by decide +kernel
theorem dX6_cork_4 : decode cX6_cork 4 = .ok (.iload_n 1, 1) := by decide +kernel
theorem dX6_cork_5 : decode cX6_cork 5 = .ok (.invokevirtual 132, 3) := by decide +kernel
theorem dX6_cork_8 : decode cX6_cork 8 = .ok (.ifCond .eq 12, 3) := by decide +kernel
theorem dX6_cork_11 : decode cX6_cork 11 = .ok (.iload_n 2, 1) := by decide +kernel
theorem dX6_cork_12 : decode cX6_cork 12 = .ok (.iconst 0, 1) := by decide +kernel
theorem dX6_cork_13 : decode cX6_cork 13 = .ok (.iconst 1, 1) := by decide +kernel
theorem dX6_cork_14 : decode cX6_cork 14 = .ok (.invokestatic 108, 3) := by decide +kernel
theorem dX6_cork_17 : decode cX6_cork 17 = .ok (.ifCond .ne 6, 3) := by decide +kernel
theorem dX6_cork_20 : decode cX6_cork 20 = .ok (.ldc 66, 2) := by decide +kernel
theorem dX6_cork_22 : decode cX6_cork 22 = .ok (.ireturn, 1) := by decide +kernel
theorem dX6_cork_23 : decode cX6_cork 23 = .ok (.aload_n 0, 1) := by decide +kernel
theorem dX6_cork_24 : decode cX6_cork 24 = .ok (.getfield 46, 3) := by decide +kernel
theorem dX6_cork_27 : decode cX6_cork 27 = .ok (.getfield 144, 3) := by decide +kernel
theorem dX6_cork_30 : decode cX6_cork 30 = .ok (.iload_n 1, 1) := by decide +kernel
theorem dX6_cork_31 : decode cX6_cork 31 = .ok (.iaload, 1) := by decide +kernel
theorem dX6_cork_32 : decode cX6_cork 32 = .ok (.istore_n 3, 1) := by decide +kernel
theorem dX6_cork_33 : decode cX6_cork 33 = .ok (.aload_n 0, 1) := by decide +kernel
theorem dX6_cork_34 : decode cX6_cork 34 = .ok (.getfield 46, 3) := by decide +kernel
theorem dX6_cork_37 : decode cX6_cork 37 = .ok (.getfield 144, 3) := by decide +kernel
theorem dX6_cork_40 : decode cX6_cork 40 = .ok (.iload_n 1, 1) := by decide +kernel
theorem dX6_cork_41 : decode cX6_cork 41 = .ok (.iload_n 2, 1) := by decide +kernel
theorem dX6_cork_42 : decode cX6_cork 42 = .ok (.iastore, 1) := by decide +kernel
theorem dX6_cork_43 : decode cX6_cork 43 = .ok (.iload_n 3, 1) := by decide +kernel
theorem dX6_cork_44 : decode cX6_cork 44 = .ok (.ireturn, 1) := by decide +kernel
theorem dX6_thirst_0 : decode cX6_thirst 0 = .ok (.iload_n 1, 1) := by decide +kernel
theorem dX6_thirst_1 : decode cX6_thirst 1 = .ok (.iconst 0, 1) := by decide +kernel
theorem dX6_thirst_2 : decode cX6_thirst 2 = .ok (.bipush 100, 2) := by decide +kernel
theorem dX6_thirst_4 : decode cX6_thirst 4 = .ok (.invokestatic 108, 3) := by decide +kernel
theorem dX6_thirst_7 : decode cX6_thirst 7 = .ok (.ifCond .ne 6, 3) := by decide +kernel
theorem dX6_thirst_10 : decode cX6_thirst 10 = .ok (.ldc 66, 2) := by decide +kernel
theorem dX6_thirst_12 : decode cX6_thirst 12 = .ok (.ireturn, 1) := by decide +kernel
theorem dX6_thirst_13 : decode cX6_thirst 13 = .ok (.aload_n 0, 1) := by decide +kernel
theorem dX6_thirst_14 : decode cX6_thirst 14 = .ok (.getfield 46, 3) := by decide +kernel
theorem dX6_thirst_17 : decode cX6_thirst 17 = .ok (.getfield 150, 3) := by decide +kernel
theorem dX6_thirst_20 : decode cX6_thirst 20 = .ok (.istore_n 2, 1) := by decide +kernel
theorem dX6_thirst_21 : decode cX6_thirst 21 = .ok (.aload_n 0, 1) := by decide +kernel
theorem dX6_thirst_22 : decode cX6_thirst 22 = .ok (.getfield 46, 3) := by decide +kernel
theorem dX6_thirst_25 : decode cX6_thirst 25 = .ok (.iload_n 1, 1) := by decide +kernel
theorem dX6_thirst_26 : decode cX6_thirst 26 = .ok (.putfield 150, 3) := by decide +kernel
theorem dX6_thirst_29 : decode cX6_thirst 29 = .ok (.iload_n 2, 1) := by decide +kernel
theorem dX6_thirst_30 : decode cX6_thirst 30 = .ok (.ireturn, 1) := by decide +kernel
theorem dX6_deal_0 : decode cX6_deal 0 = .ok (.iload_n 1, 1) := by decide +kernel
theorem dX6_deal_1 : decode cX6_deal 1 = .ok (.iconst 1, 1) := by decide +kernel
theorem dX6_deal_2 : decode cX6_deal 2 = .ok (.bipush 8, 2) := by decide +kernel
theorem dX6_deal_4 : decode cX6_deal 4 = .ok (.invokestatic 108, 3) := by decide +kernel
theorem dX6_deal_7 : decode cX6_deal 7 = .ok (.ifCond .ne 6, 3) := by decide +kernel
theorem dX6_deal_10 : decode cX6_deal 10 = .ok (.ldc 66, 2) := by decide +kernel
theorem dX6_deal_12 : decode cX6_deal 12 = .ok (.ireturn, 1) := by decide +kernel
theorem dX6_deal_13 : decode cX6_deal 13 = .ok (.iload_n 1, 1) := by decide +kernel
theorem dX6_deal_14 : decode cX6_deal 14 = .ok (.bipush 8, 2) := by decide +kernel
theorem dX6_deal_16 : decode cX6_deal 16 = .ok (.aload_n 0, 1) := by decide +kernel
theorem dX6_deal_17 : decode cX6_deal 17 = .ok (.getfield 46, 3) := by decide +kernel
theorem dX6_deal_20 : decode cX6_deal 20 = .ok (.getfield 67, 3) := by decide +kernel
theorem dX6_deal_23 : decode cX6_deal 23 = .ok (.isub, 1) := by decide +kernel
theorem dX6_deal_24 : decode cX6_deal 24 = .ok (.invokestatic 153, 3) := by decide +kernel
theorem dX6_deal_27 : decode cX6_deal 27 = .ok (.istore_n 2, 1) := by decide +kernel
theorem dX6_deal_28 : decode cX6_deal 28 = .ok (.iconst 0, 1) := by decide +kernel
theorem dX6_deal_29 : decode cX6_deal 29 = .ok (.istore_n 3, 1) := by decide +kernel
theorem dX6_deal_30 : decode cX6_deal 30 = .ok (.iload_n 3, 1) := by decide +kernel
theorem dX6_deal_31 : decode cX6_deal 31 = .ok (.iload_n 2, 1) := by decide +kernel
theorem dX6_deal_32 : decode cX6_deal 32 = .ok (.if_icmp .ge 16, 3) := by decide +kernel
theorem dX6_deal_35 : decode cX6_deal 35 = .ok (.aload_n 0, 1) := by decide +kernel
theorem dX6_deal_36 : decode cX6_deal 36 = .ok (.getfield 46, 3) := by decide +kernel
theorem dX6_deal_39 : decode cX6_deal 39 = .ok (.invokevirtual 158, 3) := by decide +kernel
theorem dX6_deal_42 : decode cX6_deal 42 = .ok (.iinc 3 1, 3) := by decide +kernel
theorem dX6_deal_45 : decode cX6_deal 45 = .ok (.goto (-15), 3) := by decide +kernel
theorem dX6_deal_48 : decode cX6_deal 48 = .ok (.iload_n 2, 1) := by decide +kernel
theorem dX6_deal_49 : decode cX6_deal 49 = .ok (.ireturn, 1) := by decide +kernel
theorem dX6_seed_0 : decode cX6_seed 0 = .ok (.aload_n 0, 1) := by decide +kernel
theorem dX6_seed_1 : decode cX6_seed 1 = .ok (.getfield 46, 3) := by decide +kernel
theorem dX6_seed_4 : decode cX6_seed 4 = .ok (.getfield 161, 3) := by decide +kernel
theorem dX6_seed_7 : decode cX6_seed 7 = .ok (.istore_n 2, 1) := by decide +kernel
theorem dX6_seed_8 : decode cX6_seed 8 = .ok (.aload_n 0, 1) := by decide +kernel
theorem dX6_seed_9 : decode cX6_seed 9 = .ok (.getfield 46, 3) := by decide +kernel
theorem dX6_seed_12 : decode cX6_seed 12 = .ok (.iload_n 1, 1) := by decide +kernel
theorem dX6_seed_13 : decode cX6_seed 13 = .ok (.putfield 161, 3) := by decide +kernel
theorem dX6_seed_16 : decode cX6_seed 16 = .ok (.iload_n 2, 1) := by decide +kernel
theorem dX6_seed_17 : decode cX6_seed 17 = .ok (.ireturn, 1) := by decide +kernel
theorem dX6_hours_0 : decode cX6_hours 0 = .ok (.iload_n 1, 1) := by decide +kernel
theorem dX6_hours_1 : decode cX6_hours 1 = .ok (.iconst 1, 1) := by decide +kernel
theorem dX6_hours_2 : decode cX6_hours 2 = .ok (.bipush 100, 2) := by decide +kernel
theorem dX6_hours_4 : decode cX6_hours 4 = .ok (.invokestatic 108, 3) := by decide +kernel
theorem dX6_hours_7 : decode cX6_hours 7 = .ok (.ifCond .ne 6, 3) := by decide +kernel
theorem dX6_hours_10 : decode cX6_hours 10 = .ok (.ldc 66, 2) := by decide +kernel
theorem dX6_hours_12 : decode cX6_hours 12 = .ok (.ireturn, 1) := by decide +kernel
theorem dX6_hours_13 : decode cX6_hours 13 = .ok (.aload_n 0, 1) := by decide +kernel
theorem dX6_hours_14 : decode cX6_hours 14 = .ok (.getfield 46, 3) := by decide +kernel
theorem dX6_hours_17 : decode cX6_hours 17 = .ok (.getfield 164, 3) := by decide +kernel
theorem dX6_hours_20 : decode cX6_hours 20 = .ok (.istore_n 2, 1) := by decide +kernel
theorem dX6_hours_21 : decode cX6_hours 21 = .ok (.aload_n 0, 1) := by decide +kernel
theorem dX6_hours_22 : decode cX6_hours 22 = .ok (.getfield 46, 3) := by decide +kernel
theorem dX6_hours_25 : decode cX6_hours 25 = .ok (.iload_n 1, 1) := by decide +kernel
theorem dX6_hours_26 : decode cX6_hours 26 = .ok (.sipush 9999, 3) := by decide +kernel
theorem dX6_hours_29 : decode cX6_hours 29 = .ok (.aload_n 0, 1) := by decide +kernel
theorem dX6_hours_30 : decode cX6_hours 30 = .ok (.getfield 46, 3) := by decide +kernel
theorem dX6_hours_33 : decode cX6_hours 33 = .ok (.getfield 167, 3) := by decide +kernel
theorem dX6_hours_36 : decode cX6_hours 36 = .ok (.isub, 1) := by decide +kernel
theorem dX6_hours_37 : decode cX6_hours 37 = .ok (.invokestatic 153, 3) := by decide +kernel
theorem dX6_hours_40 : decode cX6_hours 40 = .ok (.invokevirtual 170, 3) := by decide +kernel
theorem dX6_hours_43 : decode cX6_hours 43 = .ok (.aload_n 0, 1) := by decide +kernel
theorem dX6_hours_44 : decode cX6_hours 44 = .ok (.getfield 46, 3) := by decide +kernel
theorem dX6_hours_47 : decode cX6_hours 47 = .ok (.getfield 164, 3) := by decide +kernel
theorem dX6_hours_50 : decode cX6_hours 50 = .ok (.iload_n 2, 1) := by decide +kernel
theorem dX6_hours_51 : decode cX6_hours 51 = .ok (.isub, 1) := by decide +kernel
theorem dX6_hours_52 : decode cX6_hours 52 = .ok (.ireturn, 1) := by decide +kernel
theorem dX6_town_0 : decode cX6_town 0 = .ok (.iload_n 1, 1) := by decide +kernel
theorem dX6_town_1 : decode cX6_town 1 = .ok (.tableswitch 63 0 3 #[31, 39, 47, 55], 31) := by decide +kernel
theorem dX6_town_32 : decode cX6_town 32 = .ok (.aload_n 0, 1) := by decide +kernel
theorem dX6_town_33 : decode cX6_town 33 = .ok (.getfield 46, 3) := by decide +kernel
theorem dX6_town_36 : decode cX6_town 36 = .ok (.invokevirtual 173, 3) := by decide +kernel
theorem dX6_town_39 : decode cX6_town 39 = .ok (.ireturn, 1) := by decide +kernel
theorem dX6_town_40 : decode cX6_town 40 = .ok (.aload_n 0, 1) := by decide +kernel
theorem dX6_town_41 : decode cX6_town 41 = .ok (.getfield 46, 3) := by decide +kernel
theorem dX6_town_44 : decode cX6_town 44 = .ok (.getfield 164, 3) := by decide +kernel
theorem dX6_town_47 : decode cX6_town 47 = .ok (.ireturn, 1) := by decide +kernel
theorem dX6_town_48 : decode cX6_town 48 = .ok (.aload_n 0, 1) := by decide +kernel
theorem dX6_town_49 : decode cX6_town 49 = .ok (.getfield 46, 3) := by decide +kernel
theorem dX6_town_52 : decode cX6_town 52 = .ok (.invokevirtual 177, 3) := by decide +kernel
theorem dX6_town_55 : decode cX6_town 55 = .ok (.ireturn, 1) := by decide +kernel
theorem dX6_town_56 : decode cX6_town 56 = .ok (.aload_n 0, 1) := by decide +kernel
theorem dX6_town_57 : decode cX6_town 57 = .ok (.getfield 46, 3) := by decide +kernel
theorem dX6_town_60 : decode cX6_town 60 = .ok (.invokevirtual 180, 3) := by decide +kernel
theorem dX6_town_63 : decode cX6_town 63 = .ok (.ireturn, 1) := by decide +kernel
theorem dX6_town_64 : decode cX6_town 64 = .ok (.ldc 66, 2) := by decide +kernel
theorem dX6_town_66 : decode cX6_town 66 = .ok (.ireturn, 1) := by decide +kernel
theorem dX6_behind_0 : decode cX6_behind 0 = .ok (.iload_n 1, 1) := by decide +kernel
theorem dX6_behind_1 : decode cX6_behind 1 = .ok (.iconst 0, 1) := by decide +kernel
theorem dX6_behind_2 : decode cX6_behind 2 = .ok (.bipush 100, 2) := by decide +kernel
theorem dX6_behind_4 : decode cX6_behind 4 = .ok (.invokestatic 108, 3) := by decide +kernel
theorem dX6_behind_7 : decode cX6_behind 7 = .ok (.ifCond .eq 25, 3) := by decide +kernel
theorem dX6_behind_10 : decode cX6_behind 10 = .ok (.iload_n 2, 1) := by decide +kernel
theorem dX6_behind_11 : decode cX6_behind 11 = .ok (.iconst 0, 1) := by decide +kernel
theorem dX6_behind_12 : decode cX6_behind 12 = .ok (.iconst 1, 1) := by decide +kernel
theorem dX6_behind_13 : decode cX6_behind 13 = .ok (.invokestatic 108, 3) := by decide +kernel
theorem dX6_behind_16 : decode cX6_behind 16 = .ok (.ifCond .ne 19, 3) := by decide +kernel
theorem dX6_behind_19 : decode cX6_behind 19 = .ok (.aload_n 0, 1) := by decide +kernel
theorem dX6_behind_20 : decode cX6_behind 20 = .ok (.getfield 46, 3) := by decide +kernel
theorem dX6_behind_23 : decode cX6_behind 23 = .ok (.iload_n 2, 1) := by decide +kernel
theorem dX6_behind_24 : decode cX6_behind 24 = .ok (.iconst 2, 1) := by decide +kernel
theorem dX6_behind_25 : decode cX6_behind 25 = .ok (.isub, 1) := by decide +kernel
theorem dX6_behind_26 : decode cX6_behind 26 = .ok (.invokevirtual 76, 3) := by decide +kernel
theorem dX6_behind_29 : decode cX6_behind 29 = .ok (.ifCond .ne 6, 3) := by decide +kernel
theorem dX6_behind_32 : decode cX6_behind 32 = .ok (.ldc 66, 2) := by decide +kernel
theorem dX6_behind_34 : decode cX6_behind 34 = .ok (.ireturn, 1) := by decide +kernel
theorem dX6_behind_35 : decode cX6_behind 35 = .ok (.aload_n 0, 1) := by decide +kernel
theorem dX6_behind_36 : decode cX6_behind 36 = .ok (.invokevirtual 183, 3) := by decide +kernel
theorem dX6_behind_39 : decode cX6_behind 39 = .ok (.aload_n 0, 1) := by decide +kernel
theorem dX6_behind_40 : decode cX6_behind 40 = .ok (.getfield 53, 3) := by decide +kernel
theorem dX6_behind_43 : decode cX6_behind 43 = .ok (.iload_n 1, 1) := by decide +kernel
theorem dX6_behind_44 : decode cX6_behind 44 = .ok (.invokevirtual 170, 3) := by decide +kernel
theorem dX6_behind_47 : decode cX6_behind 47 = .ok (.iload_n 2, 1) := by decide +kernel
theorem dX6_behind_48 : decode cX6_behind 48 = .ok (.ifCond .ne 11, 3) := by decide +kernel
theorem dX6_behind_51 : decode cX6_behind 51 = .ok (.aload_n 0, 1) := by decide +kernel
theorem dX6_behind_52 : decode cX6_behind 52 = .ok (.getfield 53, 3) := by decide +kernel
theorem dX6_behind_55 : decode cX6_behind 55 = .ok (.invokevirtual 173, 3) := by decide +kernel
theorem dX6_behind_58 : decode cX6_behind 58 = .ok (.ireturn, 1) := by decide +kernel
theorem dX6_behind_59 : decode cX6_behind 59 = .ok (.iload_n 2, 1) := by decide +kernel
theorem dX6_behind_60 : decode cX6_behind 60 = .ok (.iconst 1, 1) := by decide +kernel
theorem dX6_behind_61 : decode cX6_behind 61 = .ok (.if_icmp .ne 13, 3) := by decide +kernel
theorem dX6_behind_64 : decode cX6_behind 64 = .ok (.aload_n 0, 1) := by decide +kernel
theorem dX6_behind_65 : decode cX6_behind 65 = .ok (.getfield 53, 3) := by decide +kernel
theorem dX6_behind_68 : decode cX6_behind 68 = .ok (.getfield 164, 3) := by decide +kernel
theorem dX6_behind_71 : decode cX6_behind 71 = .ok (.goto 13, 3) := by decide +kernel
theorem dX6_behind_74 : decode cX6_behind 74 = .ok (.aload_n 0, 1) := by decide +kernel
theorem dX6_behind_75 : decode cX6_behind 75 = .ok (.getfield 53, 3) := by decide +kernel
theorem dX6_behind_78 : decode cX6_behind 78 = .ok (.iload_n 2, 1) := by decide +kernel
theorem dX6_behind_79 : decode cX6_behind 79 = .ok (.iconst 2, 1) := by decide +kernel
theorem dX6_behind_80 : decode cX6_behind 80 = .ok (.isub, 1) := by decide +kernel
theorem dX6_behind_81 : decode cX6_behind 81 = .ok (.invokevirtual 88, 3) := by decide +kernel
theorem dX6_behind_84 : decode cX6_behind 84 = .ok (.ireturn, 1) := by decide +kernel
theorem dX6_taste_0 : decode cX6_taste 0 = .ok (.aload_n 0, 1) := by decide +kernel
theorem dX6_taste_1 : decode cX6_taste 1 = .ok (.getfield 46, 3) := by decide +kernel
theorem dX6_taste_4 : decode cX6_taste 4 = .ok (.iload_n 1, 1) := by decide +kernel
theorem dX6_taste_5 : decode cX6_taste 5 = .ok (.invokevirtual 76, 3) := by decide +kernel
theorem dX6_taste_8 : decode cX6_taste 8 = .ok (.ifCond .eq 22, 3) := by decide +kernel
theorem dX6_taste_11 : decode cX6_taste 11 = .ok (.iload_n 2, 1) := by decide +kernel
theorem dX6_taste_12 : decode cX6_taste 12 = .ok (.iconst 0, 1) := by decide +kernel
theorem dX6_taste_13 : decode cX6_taste 13 = .ok (.iconst 2, 1) := by decide +kernel
theorem dX6_taste_14 : decode cX6_taste 14 = .ok (.invokestatic 108, 3) := by decide +kernel
theorem dX6_taste_17 : decode cX6_taste 17 = .ok (.ifCond .eq 13, 3) := by decide +kernel
theorem dX6_taste_20 : decode cX6_taste 20 = .ok (.iload_n 3, 1) := by decide +kernel
theorem dX6_taste_21 : decode cX6_taste 21 = .ok (.iconst 0, 1) := by decide +kernel
theorem dX6_taste_22 : decode cX6_taste 22 = .ok (.bipush 100, 2) := by decide +kernel
theorem dX6_taste_24 : decode cX6_taste 24 = .ok (.invokestatic 108, 3) := by decide +kernel
theorem dX6_taste_27 : decode cX6_taste 27 = .ok (.ifCond .ne 6, 3) := by decide +kernel
theorem dX6_taste_30 : decode cX6_taste 30 = .ok (.ldc 66, 2) := by decide +kernel
theorem dX6_taste_32 : decode cX6_taste 32 = .ok (.ireturn, 1) := by decide +kernel
theorem dX6_taste_33 : decode cX6_taste 33 = .ok (.aload_n 0, 1) := by decide +kernel
theorem dX6_taste_34 : decode cX6_taste 34 = .ok (.invokevirtual 183, 3) := by decide +kernel
theorem dX6_taste_37 : decode cX6_taste 37 = .ok (.aload_n 0, 1) := by decide +kernel
theorem dX6_taste_38 : decode cX6_taste 38 = .ok (.getfield 53, 3) := by decide +kernel
theorem dX6_taste_41 : decode cX6_taste 41 = .ok (.iload_n 3, 1) := by decide +kernel
theorem dX6_taste_42 : decode cX6_taste 42 = .ok (.invokevirtual 170, 3) := by decide +kernel
theorem dX6_taste_45 : decode cX6_taste 45 = .ok (.aload_n 0, 1) := by decide +kernel
theorem dX6_taste_46 : decode cX6_taste 46 = .ok (.getfield 53, 3) := by decide +kernel
theorem dX6_taste_49 : decode cX6_taste 49 = .ok (.getfield 105, 3) := by decide +kernel
theorem dX6_taste_52 : decode cX6_taste 52 = .ok (.iload_n 1, 1) := by decide +kernel
theorem dX6_taste_53 : decode cX6_taste 53 = .ok (.iconst 3, 1) := by decide +kernel
theorem dX6_taste_54 : decode cX6_taste 54 = .ok (.imul, 1) := by decide +kernel
theorem dX6_taste_55 : decode cX6_taste 55 = .ok (.iload_n 2, 1) := by decide +kernel
theorem dX6_taste_56 : decode cX6_taste 56 = .ok (.iadd, 1) := by decide +kernel
theorem dX6_taste_57 : decode cX6_taste 57 = .ok (.iaload, 1) := by decide +kernel
theorem dX6_taste_58 : decode cX6_taste 58 = .ok (.ireturn, 1) := by decide +kernel
theorem dX6_rests_0 : decode cX6_rests 0 = .ok (.aload_n 0, 1) := by decide +kernel
theorem dX6_rests_1 : decode cX6_rests 1 = .ok (.invokevirtual 183, 3) := by decide +kernel
theorem dX6_rests_4 : decode cX6_rests 4 = .ok (.iconst 0, 1) := by decide +kernel
theorem dX6_rests_5 : decode cX6_rests 5 = .ok (.istore_n 1, 1) := by decide +kernel
theorem dX6_rests_6 : decode cX6_rests 6 = .ok (.iload_n 1, 1) := by decide +kernel
theorem dX6_rests_7 : decode cX6_rests 7 = .ok (.sipush 300, 3) := by decide +kernel
theorem dX6_rests_10 : decode cX6_rests 10 = .ok (.if_icmp .gt 28, 3) := by decide +kernel
theorem dX6_rests_13 : decode cX6_rests 13 = .ok (.aload_n 0, 1) := by decide +kernel
theorem dX6_rests_14 : decode cX6_rests 14 = .ok (.getfield 53, 3) := by decide +kernel
theorem dX6_rests_17 : decode cX6_rests 17 = .ok (.invokevirtual 177, 3) := by decide +kernel
theorem dX6_rests_20 : decode cX6_rests 20 = .ok (.ifCond .ne 5, 3) := by decide +kernel
theorem dX6_rests_23 : decode cX6_rests 23 = .ok (.iload_n 1, 1) := by decide +kernel
theorem dX6_rests_24 : decode cX6_rests 24 = .ok (.ireturn, 1) := by decide +kernel
theorem dX6_rests_25 : decode cX6_rests 25 = .ok (.aload_n 0, 1) := by decide +kernel
theorem dX6_rests_26 : decode cX6_rests 26 = .ok (.getfield 53, 3) := by decide +kernel
theorem dX6_rests_29 : decode cX6_rests 29 = .ok (.invokevirtual 186, 3) := by decide +kernel
theorem dX6_rests_32 : decode cX6_rests 32 = .ok (.iinc 1 1, 3) := by decide +kernel
theorem dX6_rests_35 : decode cX6_rests 35 = .ok (.goto (-29), 3) := by decide +kernel
theorem dX6_rests_38 : decode cX6_rests 38 = .ok (.ldc 189, 2) := by decide +kernel
theorem dX6_rests_40 : decode cX6_rests 40 = .ok (.ireturn, 1) := by decide +kernel
theorem dX6_corks_0 : decode cX6_corks 0 = .ok (.aload_n 0, 1) := by decide +kernel
theorem dX6_corks_1 : decode cX6_corks 1 = .ok (.getfield 46, 3) := by decide +kernel
theorem dX6_corks_4 : decode cX6_corks 4 = .ok (.iload_n 1, 1) := by decide +kernel
theorem dX6_corks_5 : decode cX6_corks 5 = .ok (.invokevirtual 76, 3) := by decide +kernel
theorem dX6_corks_8 : decode cX6_corks 8 = .ok (.ifCond .eq 22, 3) := by decide +kernel
theorem dX6_corks_11 : decode cX6_corks 11 = .ok (.iload_n 2, 1) := by decide +kernel
theorem dX6_corks_12 : decode cX6_corks 12 = .ok (.iconst 1, 1) := by decide +kernel
theorem dX6_corks_13 : decode cX6_corks 13 = .ok (.bipush 60, 2) := by decide +kernel
theorem dX6_corks_15 : decode cX6_corks 15 = .ok (.invokestatic 108, 3) := by decide +kernel
theorem dX6_corks_18 : decode cX6_corks 18 = .ok (.ifCond .eq 12, 3) := by decide +kernel
theorem dX6_corks_21 : decode cX6_corks 21 = .ok (.iload_n 3, 1) := by decide +kernel
theorem dX6_corks_22 : decode cX6_corks 22 = .ok (.iconst 0, 1) := by decide +kernel
theorem dX6_corks_23 : decode cX6_corks 23 = .ok (.iconst 1, 1) := by decide +kernel
theorem dX6_corks_24 : decode cX6_corks 24 = .ok (.invokestatic 108, 3) := by decide +kernel
theorem dX6_corks_27 : decode cX6_corks 27 = .ok (.ifCond .ne 6, 3) := by decide +kernel
theorem dX6_corks_30 : decode cX6_corks 30 = .ok (.ldc 66, 2) := by decide +kernel
theorem dX6_corks_32 : decode cX6_corks 32 = .ok (.ireturn, 1) := by decide +kernel
theorem dX6_corks_33 : decode cX6_corks 33 = .ok (.ldc 189, 2) := by decide +kernel
theorem dX6_corks_35 : decode cX6_corks 35 = .ok (.istore 4, 2) := by decide +kernel
theorem dX6_corks_37 : decode cX6_corks 37 = .ok (.ldc 189, 2) := by decide +kernel
theorem dX6_corks_39 : decode cX6_corks 39 = .ok (.istore 5, 2) := by decide +kernel
theorem dX6_corks_41 : decode cX6_corks 41 = .ok (.iconst 0, 1) := by decide +kernel
theorem dX6_corks_42 : decode cX6_corks 42 = .ok (.istore 6, 2) := by decide +kernel
theorem dX6_corks_44 : decode cX6_corks 44 = .ok (.iload 6, 2) := by decide +kernel
theorem dX6_corks_46 : decode cX6_corks 46 = .ok (.aload_n 0, 1) := by decide +kernel
theorem dX6_corks_47 : decode cX6_corks 47 = .ok (.getfield 46, 3) := by decide +kernel
theorem dX6_corks_50 : decode cX6_corks 50 = .ok (.getfield 126, 3) := by decide +kernel
theorem dX6_corks_53 : decode cX6_corks 53 = .ok (.if_icmp .ge 68, 3) := by decide +kernel
theorem dX6_corks_56 : decode cX6_corks 56 = .ok (.aload_n 0, 1) := by decide +kernel
theorem dX6_corks_57 : decode cX6_corks 57 = .ok (.getfield 46, 3) := by decide +kernel
theorem dX6_corks_60 : decode cX6_corks 60 = .ok (.getfield 144, 3) := by decide +kernel
theorem dX6_corks_63 : decode cX6_corks 63 = .ok (.iload 6, 2) := by decide +kernel
theorem dX6_corks_65 : decode cX6_corks 65 = .ok (.iaload, 1) := by decide +kernel
theorem dX6_corks_66 : decode cX6_corks 66 = .ok (.ifCond .ne 49, 3) := by decide +kernel
theorem dX6_corks_69 : decode cX6_corks 69 = .ok (.aload_n 0, 1) := by decide +kernel
theorem dX6_corks_70 : decode cX6_corks 70 = .ok (.iload 6, 2) := by decide +kernel
theorem dX6_corks_72 : decode cX6_corks 72 = .ok (.invokevirtual 190, 3) := by decide +kernel
theorem dX6_corks_75 : decode cX6_corks 75 = .ok (.aload_n 0, 1) := by decide +kernel
theorem dX6_corks_76 : decode cX6_corks 76 = .ok (.getfield 53, 3) := by decide +kernel
theorem dX6_corks_79 : decode cX6_corks 79 = .ok (.iload_n 2, 1) := by decide +kernel
theorem dX6_corks_80 : decode cX6_corks 80 = .ok (.invokevirtual 170, 3) := by decide +kernel
theorem dX6_corks_83 : decode cX6_corks 83 = .ok (.aload_n 0, 1) := by decide +kernel
theorem dX6_corks_84 : decode cX6_corks 84 = .ok (.getfield 53, 3) := by decide +kernel
theorem dX6_corks_87 : decode cX6_corks 87 = .ok (.iload_n 1, 1) := by decide +kernel
theorem dX6_corks_88 : decode cX6_corks 88 = .ok (.invokevirtual 88, 3) := by decide +kernel
theorem dX6_corks_91 : decode cX6_corks 91 = .ok (.istore 7, 2) := by decide +kernel
theorem dX6_corks_93 : decode cX6_corks 93 = .ok (.iload 4, 2) := by decide +kernel
theorem dX6_corks_95 : decode cX6_corks 95 = .ok (.ldc 189, 2) := by decide +kernel
theorem dX6_corks_97 : decode cX6_corks 97 = .ok (.if_icmp .eq 10, 3) := by decide +kernel
theorem dX6_corks_100 : decode cX6_corks 100 = .ok (.iload 7, 2) := by decide +kernel
theorem dX6_corks_102 : decode cX6_corks 102 = .ok (.iload 5, 2) := by decide +kernel
theorem dX6_corks_104 : decode cX6_corks 104 = .ok (.if_icmp .le 11, 3) := by decide +kernel
theorem dX6_corks_107 : decode cX6_corks 107 = .ok (.iload 6, 2) := by decide +kernel
theorem dX6_corks_109 : decode cX6_corks 109 = .ok (.istore 4, 2) := by decide +kernel
theorem dX6_corks_111 : decode cX6_corks 111 = .ok (.iload 7, 2) := by decide +kernel
theorem dX6_corks_113 : decode cX6_corks 113 = .ok (.istore 5, 2) := by decide +kernel
theorem dX6_corks_115 : decode cX6_corks 115 = .ok (.iinc 6 1, 3) := by decide +kernel
theorem dX6_corks_118 : decode cX6_corks 118 = .ok (.goto (-74), 3) := by decide +kernel
theorem dX6_corks_121 : decode cX6_corks 121 = .ok (.iload_n 3, 1) := by decide +kernel
theorem dX6_corks_122 : decode cX6_corks 122 = .ok (.ifCond .ne 8, 3) := by decide +kernel
theorem dX6_corks_125 : decode cX6_corks 125 = .ok (.iload 4, 2) := by decide +kernel
theorem dX6_corks_127 : decode cX6_corks 127 = .ok (.goto 5, 3) := by decide +kernel
theorem dX6_corks_130 : decode cX6_corks 130 = .ok (.iload 5, 2) := by decide +kernel
theorem dX6_corks_132 : decode cX6_corks 132 = .ok (.ireturn, 1) := by decide +kernel
theorem dX6_dig_0 : decode cX6_dig 0 = .ok (.iload_n 1, 1) := by decide +kernel
theorem dX6_dig_1 : decode cX6_dig 1 = .ok (.iconst 1, 1) := by decide +kernel
theorem dX6_dig_2 : decode cX6_dig 2 = .ok (.bipush 40, 2) := by decide +kernel
theorem dX6_dig_4 : decode cX6_dig 4 = .ok (.invokestatic 108, 3) := by decide +kernel
theorem dX6_dig_7 : decode cX6_dig 7 = .ok (.ifCond .eq 12, 3) := by decide +kernel
theorem dX6_dig_10 : decode cX6_dig 10 = .ok (.iload_n 2, 1) := by decide +kernel
theorem dX6_dig_11 : decode cX6_dig 11 = .ok (.iconst 0, 1) := by decide +kernel
theorem dX6_dig_12 : decode cX6_dig 12 = .ok (.iconst 1, 1) := by decide +kernel
theorem dX6_dig_13 : decode cX6_dig 13 = .ok (.invokestatic 108, 3) := by decide +kernel
theorem dX6_dig_16 : decode cX6_dig 16 = .ok (.ifCond .ne 6, 3) := by decide +kernel
theorem dX6_dig_19 : decode cX6_dig 19 = .ok (.ldc 66, 2) := by decide +kernel
theorem dX6_dig_21 : decode cX6_dig 21 = .ok (.ireturn, 1) := by decide +kernel
theorem dX6_dig_22 : decode cX6_dig 22 = .ok (.ldc 189, 2) := by decide +kernel
theorem dX6_dig_24 : decode cX6_dig 24 = .ok (.istore_n 3, 1) := by decide +kernel
theorem dX6_dig_25 : decode cX6_dig 25 = .ok (.ldc 189, 2) := by decide +kernel
theorem dX6_dig_27 : decode cX6_dig 27 = .ok (.istore 4, 2) := by decide +kernel
theorem dX6_dig_29 : decode cX6_dig 29 = .ok (.iconst 0, 1) := by decide +kernel
theorem dX6_dig_30 : decode cX6_dig 30 = .ok (.istore 5, 2) := by decide +kernel
theorem dX6_dig_32 : decode cX6_dig 32 = .ok (.iload 5, 2) := by decide +kernel
theorem dX6_dig_34 : decode cX6_dig 34 = .ok (.aload_n 0, 1) := by decide +kernel
theorem dX6_dig_35 : decode cX6_dig 35 = .ok (.getfield 46, 3) := by decide +kernel
theorem dX6_dig_38 : decode cX6_dig 38 = .ok (.getfield 67, 3) := by decide +kernel
theorem dX6_dig_41 : decode cX6_dig 41 = .ok (.if_icmp .ge 99, 3) := by decide +kernel
theorem dX6_dig_44 : decode cX6_dig 44 = .ok (.iload 5, 2) := by decide +kernel
theorem dX6_dig_46 : decode cX6_dig 46 = .ok (.iconst 1, 1) := by decide +kernel
theorem dX6_dig_47 : decode cX6_dig 47 = .ok (.iadd, 1) := by decide +kernel
theorem dX6_dig_48 : decode cX6_dig 48 = .ok (.istore 6, 2) := by decide +kernel
theorem dX6_dig_50 : decode cX6_dig 50 = .ok (.iload 6, 2) := by decide +kernel
theorem dX6_dig_52 : decode cX6_dig 52 = .ok (.aload_n 0, 1) := by decide +kernel
theorem dX6_dig_53 : decode cX6_dig 53 = .ok (.getfield 46, 3) := by decide +kernel
theorem dX6_dig_56 : decode cX6_dig 56 = .ok (.getfield 67, 3) := by decide +kernel
theorem dX6_dig_59 : decode cX6_dig 59 = .ok (.if_icmp .ge 75, 3) := by decide +kernel
theorem dX6_dig_62 : decode cX6_dig 62 = .ok (.aload_n 0, 1) := by decide +kernel
theorem dX6_dig_63 : decode cX6_dig 63 = .ok (.getfield 46, 3) := by decide +kernel
theorem dX6_dig_66 : decode cX6_dig 66 = .ok (.iload 5, 2) := by decide +kernel
theorem dX6_dig_68 : decode cX6_dig 68 = .ok (.iload 6, 2) := by decide +kernel
theorem dX6_dig_70 : decode cX6_dig 70 = .ok (.invokevirtual 193, 3) := by decide +kernel
theorem dX6_dig_73 : decode cX6_dig 73 = .ok (.ifCond .ne 55, 3) := by decide +kernel
theorem dX6_dig_76 : decode cX6_dig 76 = .ok (.aload_n 0, 1) := by decide +kernel
theorem dX6_dig_77 : decode cX6_dig 77 = .ok (.iload 5, 2) := by decide +kernel
theorem dX6_dig_79 : decode cX6_dig 79 = .ok (.iload 6, 2) := by decide +kernel
theorem dX6_dig_81 : decode cX6_dig 81 = .ok (.invokevirtual 196, 3) := by decide +kernel
theorem dX6_dig_84 : decode cX6_dig 84 = .ok (.aload_n 0, 1) := by decide +kernel
theorem dX6_dig_85 : decode cX6_dig 85 = .ok (.getfield 53, 3) := by decide +kernel
theorem dX6_dig_88 : decode cX6_dig 88 = .ok (.iload_n 1, 1) := by decide +kernel
theorem dX6_dig_89 : decode cX6_dig 89 = .ok (.invokevirtual 170, 3) := by decide +kernel
theorem dX6_dig_92 : decode cX6_dig 92 = .ok (.iload_n 3, 1) := by decide +kernel
theorem dX6_dig_93 : decode cX6_dig 93 = .ok (.ldc 189, 2) := by decide +kernel
theorem dX6_dig_95 : decode cX6_dig 95 = .ok (.if_icmp .eq 15, 3) := by decide +kernel
theorem dX6_dig_98 : decode cX6_dig 98 = .ok (.aload_n 0, 1) := by decide +kernel
theorem dX6_dig_99 : decode cX6_dig 99 = .ok (.getfield 53, 3) := by decide +kernel
theorem dX6_dig_102 : decode cX6_dig 102 = .ok (.getfield 164, 3) := by decide +kernel
theorem dX6_dig_105 : decode cX6_dig 105 = .ok (.iload 4, 2) := by decide +kernel
theorem dX6_dig_107 : decode cX6_dig 107 = .ok (.if_icmp .ge 21, 3) := by decide +kernel
theorem dX6_dig_110 : decode cX6_dig 110 = .ok (.bipush 10, 2) := by decide +kernel
theorem dX6_dig_112 : decode cX6_dig 112 = .ok (.iload 5, 2) := by decide +kernel
theorem dX6_dig_114 : decode cX6_dig 114 = .ok (.imul, 1) := by decide +kernel
theorem dX6_dig_115 : decode cX6_dig 115 = .ok (.iload 6, 2) := by decide +kernel
theorem dX6_dig_117 : decode cX6_dig 117 = .ok (.iadd, 1) := by decide +kernel
theorem dX6_dig_118 : decode cX6_dig 118 = .ok (.istore_n 3, 1) := by decide +kernel
theorem dX6_dig_119 : decode cX6_dig 119 = .ok (.aload_n 0, 1) := by decide +kernel
theorem dX6_dig_120 : decode cX6_dig 120 = .ok (.getfield 53, 3) := by decide +kernel
theorem dX6_dig_123 : decode cX6_dig 123 = .ok (.getfield 164, 3) := by decide +kernel
theorem dX6_dig_126 : decode cX6_dig 126 = .ok (.istore 4, 2) := by decide +kernel
theorem dX6_dig_128 : decode cX6_dig 128 = .ok (.iinc 6 1, 3) := by decide +kernel
theorem dX6_dig_131 : decode cX6_dig 131 = .ok (.goto (-81), 3) := by decide +kernel
theorem dX6_dig_134 : decode cX6_dig 134 = .ok (.iinc 5 1, 3) := by decide +kernel
theorem dX6_dig_137 : decode cX6_dig 137 = .ok (.goto (-105), 3) := by decide +kernel
theorem dX6_dig_140 : decode cX6_dig 140 = .ok (.iload_n 2, 1) := by decide +kernel
theorem dX6_dig_141 : decode cX6_dig 141 = .ok (.ifCond .ne 7, 3) := by decide +kernel
theorem dX6_dig_144 : decode cX6_dig 144 = .ok (.iload_n 3, 1) := by decide +kernel
theorem dX6_dig_145 : decode cX6_dig 145 = .ok (.goto 5, 3) := by decide +kernel
theorem dX6_dig_148 : decode cX6_dig 148 = .ok (.iload 4, 2) := by decide +kernel
theorem dX6_dig_150 : decode cX6_dig 150 = .ok (.ireturn, 1) := by decide +kernel
theorem dX6_loser_0 : decode cX6_loser 0 = .ok (.iload_n 1, 1) := by decide +kernel
theorem dX6_loser_1 : decode cX6_loser 1 = .ok (.iconst 1, 1) := by decide +kernel
theorem dX6_loser_2 : decode cX6_loser 2 = .ok (.bipush 60, 2) := by decide +kernel
theorem dX6_loser_4 : decode cX6_loser 4 = .ok (.invokestatic 108, 3) := by decide +kernel
theorem dX6_loser_7 : decode cX6_loser 7 = .ok (.ifCond .eq 12, 3) := by decide +kernel
theorem dX6_loser_10 : decode cX6_loser 10 = .ok (.iload_n 2, 1) := by decide +kernel
theorem dX6_loser_11 : decode cX6_loser 11 = .ok (.iconst 0, 1) := by decide +kernel
theorem dX6_loser_12 : decode cX6_loser 12 = .ok (.iconst 1, 1) := by decide +kernel
theorem dX6_loser_13 : decode cX6_loser 13 = .ok (.invokestatic 108, 3) := by decide +kernel
theorem dX6_loser_16 : decode cX6_loser 16 = .ok (.ifCond .ne 6, 3) := by decide +kernel
theorem dX6_loser_19 : decode cX6_loser 19 = .ok (.ldc 66, 2) := by decide +kernel
theorem dX6_loser_21 : decode cX6_loser 21 = .ok (.ireturn, 1) := by decide +kernel
theorem dX6_loser_22 : decode cX6_loser 22 = .ok (.aload_n 0, 1) := by decide +kernel
theorem dX6_loser_23 : decode cX6_loser 23 = .ok (.invokevirtual 183, 3) := by decide +kernel
theorem dX6_loser_26 : decode cX6_loser 26 = .ok (.aload_n 0, 1) := by decide +kernel
theorem dX6_loser_27 : decode cX6_loser 27 = .ok (.getfield 53, 3) := by decide +kernel
theorem dX6_loser_30 : decode cX6_loser 30 = .ok (.iload_n 1, 1) := by decide +kernel
theorem dX6_loser_31 : decode cX6_loser 31 = .ok (.invokevirtual 170, 3) := by decide +kernel
theorem dX6_loser_34 : decode cX6_loser 34 = .ok (.ldc 189, 2) := by decide +kernel
theorem dX6_loser_36 : decode cX6_loser 36 = .ok (.istore_n 3, 1) := by decide +kernel
theorem dX6_loser_37 : decode cX6_loser 37 = .ok (.ldc 189, 2) := by decide +kernel
theorem dX6_loser_39 : decode cX6_loser 39 = .ok (.istore 4, 2) := by decide +kernel
theorem dX6_loser_41 : decode cX6_loser 41 = .ok (.iconst 0, 1) := by decide +kernel
theorem dX6_loser_42 : decode cX6_loser 42 = .ok (.istore 5, 2) := by decide +kernel
theorem dX6_loser_44 : decode cX6_loser 44 = .ok (.iload 5, 2) := by decide +kernel
theorem dX6_loser_46 : decode cX6_loser 46 = .ok (.aload_n 0, 1) := by decide +kernel
theorem dX6_loser_47 : decode cX6_loser 47 = .ok (.getfield 46, 3) := by decide +kernel
theorem dX6_loser_50 : decode cX6_loser 50 = .ok (.getfield 67, 3) := by decide +kernel
theorem dX6_loser_53 : decode cX6_loser 53 = .ok (.if_icmp .ge 50, 3) := by decide +kernel
theorem dX6_loser_56 : decode cX6_loser 56 = .ok (.aload_n 0, 1) := by decide +kernel
theorem dX6_loser_57 : decode cX6_loser 57 = .ok (.getfield 46, 3) := by decide +kernel
theorem dX6_loser_60 : decode cX6_loser 60 = .ok (.iload 5, 2) := by decide +kernel
theorem dX6_loser_62 : decode cX6_loser 62 = .ok (.invokevirtual 88, 3) := by decide +kernel
theorem dX6_loser_65 : decode cX6_loser 65 = .ok (.aload_n 0, 1) := by decide +kernel
theorem dX6_loser_66 : decode cX6_loser 66 = .ok (.getfield 53, 3) := by decide +kernel
theorem dX6_loser_69 : decode cX6_loser 69 = .ok (.iload 5, 2) := by decide +kernel
theorem dX6_loser_71 : decode cX6_loser 71 = .ok (.invokevirtual 88, 3) := by decide +kernel
theorem dX6_loser_74 : decode cX6_loser 74 = .ok (.isub, 1) := by decide +kernel
theorem dX6_loser_75 : decode cX6_loser 75 = .ok (.istore 6, 2) := by decide +kernel
theorem dX6_loser_77 : decode cX6_loser 77 = .ok (.iload_n 3, 1) := by decide +kernel
theorem dX6_loser_78 : decode cX6_loser 78 = .ok (.ldc 189, 2) := by decide +kernel
theorem dX6_loser_80 : decode cX6_loser 80 = .ok (.if_icmp .eq 10, 3) := by decide +kernel
theorem dX6_loser_83 : decode cX6_loser 83 = .ok (.iload 6, 2) := by decide +kernel
theorem dX6_loser_85 : decode cX6_loser 85 = .ok (.iload 4, 2) := by decide +kernel
theorem dX6_loser_87 : decode cX6_loser 87 = .ok (.if_icmp .le 10, 3) := by decide +kernel
theorem dX6_loser_90 : decode cX6_loser 90 = .ok (.iload 5, 2) := by decide +kernel
theorem dX6_loser_92 : decode cX6_loser 92 = .ok (.istore_n 3, 1) := by decide +kernel
theorem dX6_loser_93 : decode cX6_loser 93 = .ok (.iload 6, 2) := by decide +kernel
theorem dX6_loser_95 : decode cX6_loser 95 = .ok (.istore 4, 2) := by decide +kernel
theorem dX6_loser_97 : decode cX6_loser 97 = .ok (.iinc 5 1, 3) := by decide +kernel
theorem dX6_loser_100 : decode cX6_loser 100 = .ok (.goto (-56), 3) := by decide +kernel
theorem dX6_loser_103 : decode cX6_loser 103 = .ok (.iload_n 2, 1) := by decide +kernel
theorem dX6_loser_104 : decode cX6_loser 104 = .ok (.ifCond .ne 7, 3) := by decide +kernel
theorem dX6_loser_107 : decode cX6_loser 107 = .ok (.iload_n 3, 1) := by decide +kernel
theorem dX6_loser_108 : decode cX6_loser 108 = .ok (.goto 5, 3) := by decide +kernel
theorem dX6_loser_111 : decode cX6_loser 111 = .ok (.iload 4, 2) := by decide +kernel
theorem dX6_loser_113 : decode cX6_loser 113 = .ok (.ireturn, 1) := by decide +kernel
theorem dX6_tap_0 : decode cX6_tap 0 = .ok (.aload_n 0, 1) := by decide +kernel
theorem dX6_tap_1 : decode cX6_tap 1 = .ok (.getfield 46, 3) := by decide +kernel
theorem dX6_tap_4 : decode cX6_tap 4 = .ok (.iload_n 1, 1) := by decide +kernel
theorem dX6_tap_5 : decode cX6_tap 5 = .ok (.invokevirtual 76, 3) := by decide +kernel
theorem dX6_tap_8 : decode cX6_tap 8 = .ok (.ifCond .eq 13, 3) := by decide +kernel
theorem dX6_tap_11 : decode cX6_tap 11 = .ok (.iload_n 2, 1) := by decide +kernel
theorem dX6_tap_12 : decode cX6_tap 12 = .ok (.iconst 1, 1) := by decide +kernel
theorem dX6_tap_13 : decode cX6_tap 13 = .ok (.bipush 60, 2) := by decide +kernel
theorem dX6_tap_15 : decode cX6_tap 15 = .ok (.invokestatic 108, 3) := by decide +kernel
theorem dX6_tap_18 : decode cX6_tap 18 = .ok (.ifCond .ne 6, 3) := by decide +kernel
theorem dX6_tap_21 : decode cX6_tap 21 = .ok (.ldc 66, 2) := by decide +kernel
theorem dX6_tap_23 : decode cX6_tap 23 = .ok (.ireturn, 1) := by decide +kernel
theorem dX6_tap_24 : decode cX6_tap 24 = .ok (.aload_n 0, 1) := by decide +kernel
theorem dX6_tap_25 : decode cX6_tap 25 = .ok (.invokevirtual 183, 3) := by decide +kernel
theorem dX6_tap_28 : decode cX6_tap 28 = .ok (.aload_n 0, 1) := by decide +kernel
theorem dX6_tap_29 : decode cX6_tap 29 = .ok (.getfield 53, 3) := by decide +kernel
theorem dX6_tap_32 : decode cX6_tap 32 = .ok (.iload_n 2, 1) := by decide +kernel
theorem dX6_tap_33 : decode cX6_tap 33 = .ok (.invokevirtual 170, 3) := by decide +kernel
theorem dX6_tap_36 : decode cX6_tap 36 = .ok (.aload_n 0, 1) := by decide +kernel
theorem dX6_tap_37 : decode cX6_tap 37 = .ok (.getfield 53, 3) := by decide +kernel
theorem dX6_tap_40 : decode cX6_tap 40 = .ok (.invokevirtual 173, 3) := by decide +kernel
theorem dX6_tap_43 : decode cX6_tap 43 = .ok (.aload_n 0, 1) := by decide +kernel
theorem dX6_tap_44 : decode cX6_tap 44 = .ok (.getfield 53, 3) := by decide +kernel
theorem dX6_tap_47 : decode cX6_tap 47 = .ok (.iload_n 1, 1) := by decide +kernel
theorem dX6_tap_48 : decode cX6_tap 48 = .ok (.invokevirtual 88, 3) := by decide +kernel
theorem dX6_tap_51 : decode cX6_tap 51 = .ok (.isub, 1) := by decide +kernel
theorem dX6_tap_52 : decode cX6_tap 52 = .ok (.istore_n 3, 1) := by decide +kernel
theorem dX6_tap_53 : decode cX6_tap 53 = .ok (.aload_n 0, 1) := by decide +kernel
theorem dX6_tap_54 : decode cX6_tap 54 = .ok (.invokevirtual 183, 3) := by decide +kernel
theorem dX6_tap_57 : decode cX6_tap 57 = .ok (.aload_n 0, 1) := by decide +kernel
theorem dX6_tap_58 : decode cX6_tap 58 = .ok (.getfield 53, 3) := by decide +kernel
theorem dX6_tap_61 : decode cX6_tap 61 = .ok (.iload_n 1, 1) := by decide +kernel
theorem dX6_tap_62 : decode cX6_tap 62 = .ok (.invokevirtual 200, 3) := by decide +kernel
theorem dX6_tap_65 : decode cX6_tap 65 = .ok (.aload_n 0, 1) := by decide +kernel
theorem dX6_tap_66 : decode cX6_tap 66 = .ok (.getfield 53, 3) := by decide +kernel
theorem dX6_tap_69 : decode cX6_tap 69 = .ok (.iload_n 2, 1) := by decide +kernel
theorem dX6_tap_70 : decode cX6_tap 70 = .ok (.invokevirtual 170, 3) := by decide +kernel
theorem dX6_tap_73 : decode cX6_tap 73 = .ok (.iload_n 3, 1) := by decide +kernel
theorem dX6_tap_74 : decode cX6_tap 74 = .ok (.aload_n 0, 1) := by decide +kernel
theorem dX6_tap_75 : decode cX6_tap 75 = .ok (.getfield 53, 3) := by decide +kernel
theorem dX6_tap_78 : decode cX6_tap 78 = .ok (.invokevirtual 173, 3) := by decide +kernel
theorem dX6_tap_81 : decode cX6_tap 81 = .ok (.aload_n 0, 1) := by decide +kernel
theorem dX6_tap_82 : decode cX6_tap 82 = .ok (.getfield 53, 3) := by decide +kernel
theorem dX6_tap_85 : decode cX6_tap 85 = .ok (.iload_n 1, 1) := by decide +kernel
theorem dX6_tap_86 : decode cX6_tap 86 = .ok (.invokevirtual 88, 3) := by decide +kernel
theorem dX6_tap_89 : decode cX6_tap 89 = .ok (.isub, 1) := by decide +kernel
theorem dX6_tap_90 : decode cX6_tap 90 = .ok (.isub, 1) := by decide +kernel
theorem dX6_tap_91 : decode cX6_tap 91 = .ok (.ireturn, 1) := by decide +kernel
theorem dX6_dug_0 : decode cX6_dug 0 = .ok (.iload_n 1, 1) := by decide +kernel
theorem dX6_dug_1 : decode cX6_dug 1 = .ok (.invokestatic 203, 3) := by decide +kernel
theorem dX6_dug_4 : decode cX6_dug 4 = .ok (.ifCond .eq 23, 3) := by decide +kernel
theorem dX6_dug_7 : decode cX6_dug 7 = .ok (.aload_n 0, 1) := by decide +kernel
theorem dX6_dug_8 : decode cX6_dug 8 = .ok (.getfield 46, 3) := by decide +kernel
theorem dX6_dug_11 : decode cX6_dug 11 = .ok (.iload_n 2, 1) := by decide +kernel
theorem dX6_dug_12 : decode cX6_dug 12 = .ok (.invokevirtual 76, 3) := by decide +kernel
theorem dX6_dug_15 : decode cX6_dug 15 = .ok (.ifCond .eq 12, 3) := by decide +kernel
theorem dX6_dug_18 : decode cX6_dug 18 = .ok (.iload_n 3, 1) := by decide +kernel
theorem dX6_dug_19 : decode cX6_dug 19 = .ok (.iconst 0, 1) := by decide +kernel
theorem dX6_dug_20 : decode cX6_dug 20 = .ok (.iconst 1, 1) := by decide +kernel
theorem dX6_dug_21 : decode cX6_dug 21 = .ok (.invokestatic 108, 3) := by decide +kernel
theorem dX6_dug_24 : decode cX6_dug 24 = .ok (.ifCond .ne 6, 3) := by decide +kernel
theorem dX6_dug_27 : decode cX6_dug 27 = .ok (.ldc 66, 2) := by decide +kernel
theorem dX6_dug_29 : decode cX6_dug 29 = .ok (.ireturn, 1) := by decide +kernel
theorem dX6_dug_30 : decode cX6_dug 30 = .ok (.aload_n 0, 1) := by decide +kernel
theorem dX6_dug_31 : decode cX6_dug 31 = .ok (.getfield 18, 3) := by decide +kernel
theorem dX6_dug_34 : decode cX6_dug 34 = .ok (.iload_n 1, 1) := by decide +kernel
theorem dX6_dug_35 : decode cX6_dug 35 = .ok (.aaload, 1) := by decide +kernel
theorem dX6_dug_36 : decode cX6_dug 36 = .ok (.astore 4, 2) := by decide +kernel
theorem dX6_dug_38 : decode cX6_dug 38 = .ok (.aload 4, 2) := by decide +kernel
theorem dX6_dug_40 : decode cX6_dug 40 = .ok (.invokevirtual 206, 3) := by decide +kernel
theorem dX6_dug_43 : decode cX6_dug 43 = .ok (.ifCond .eq 6, 3) := by decide +kernel
theorem dX6_dug_46 : decode cX6_dug 46 = .ok (.ldc 210, 2) := by decide +kernel
theorem dX6_dug_48 : decode cX6_dug 48 = .ok (.ireturn, 1) := by decide +kernel
theorem dX6_dug_49 : decode cX6_dug 49 = .ok (.aload_n 0, 1) := by decide +kernel
theorem dX6_dug_50 : decode cX6_dug 50 = .ok (.invokevirtual 183, 3) := by decide +kernel
theorem dX6_dug_53 : decode cX6_dug 53 = .ok (.ldc 189, 2) := by decide +kernel
theorem dX6_dug_55 : decode cX6_dug 55 = .ok (.istore 5, 2) := by decide +kernel
theorem dX6_dug_57 : decode cX6_dug 57 = .ok (.aload_n 0, 1) := by decide +kernel
theorem dX6_dug_58 : decode cX6_dug 58 = .ok (.aload 4, 2) := by decide +kernel
theorem dX6_dug_60 : decode cX6_dug 60 = .ok (.iload_n 2, 1) := by decide +kernel
theorem dX6_dug_61 : decode cX6_dug 61 = .ok (.invokevirtual 211, 3) := by decide +kernel
theorem dX6_dug_64 : decode cX6_dug 64 = .ok (.istore 6, 2) := by decide +kernel
theorem dX6_dug_66 : decode cX6_dug 66 = .ok (.iconst 0, 1) := by decide +kernel
theorem dX6_dug_67 : decode cX6_dug 67 = .ok (.istore 7, 2) := by decide +kernel
theorem dX6_dug_69 : decode cX6_dug 69 = .ok (.iload 7, 2) := by decide +kernel
theorem dX6_dug_71 : decode cX6_dug 71 = .ok (.aload_n 0, 1) := by decide +kernel
theorem dX6_dug_72 : decode cX6_dug 72 = .ok (.getfield 46, 3) := by decide +kernel
theorem dX6_dug_75 : decode cX6_dug 75 = .ok (.getfield 126, 3) := by decide +kernel
theorem dX6_dug_78 : decode cX6_dug 78 = .ok (.if_icmp .ge 39, 3) := by decide +kernel
theorem dX6_dug_81 : decode cX6_dug 81 = .ok (.aload_n 0, 1) := by decide +kernel
theorem dX6_dug_82 : decode cX6_dug 82 = .ok (.iload 7, 2) := by decide +kernel
theorem dX6_dug_84 : decode cX6_dug 84 = .ok (.invokevirtual 190, 3) := by decide +kernel
theorem dX6_dug_87 : decode cX6_dug 87 = .ok (.aload_n 0, 1) := by decide +kernel
theorem dX6_dug_88 : decode cX6_dug 88 = .ok (.aload 4, 2) := by decide +kernel
theorem dX6_dug_90 : decode cX6_dug 90 = .ok (.iload_n 2, 1) := by decide +kernel
theorem dX6_dug_91 : decode cX6_dug 91 = .ok (.invokevirtual 211, 3) := by decide +kernel
theorem dX6_dug_94 : decode cX6_dug 94 = .ok (.istore 8, 2) := by decide +kernel
theorem dX6_dug_96 : decode cX6_dug 96 = .ok (.iload 8, 2) := by decide +kernel
theorem dX6_dug_98 : decode cX6_dug 98 = .ok (.iload 6, 2) := by decide +kernel
theorem dX6_dug_100 : decode cX6_dug 100 = .ok (.if_icmp .ge 11, 3) := by decide +kernel
theorem dX6_dug_103 : decode cX6_dug 103 = .ok (.iload 7, 2) := by decide +kernel
theorem dX6_dug_105 : decode cX6_dug 105 = .ok (.istore 5, 2) := by decide +kernel
theorem dX6_dug_107 : decode cX6_dug 107 = .ok (.iload 8, 2) := by decide +kernel
theorem dX6_dug_109 : decode cX6_dug 109 = .ok (.istore 6, 2) := by decide +kernel
theorem dX6_dug_111 : decode cX6_dug 111 = .ok (.iinc 7 1, 3) := by decide +kernel
theorem dX6_dug_114 : decode cX6_dug 114 = .ok (.goto (-45), 3) := by decide +kernel
theorem dX6_dug_117 : decode cX6_dug 117 = .ok (.iload_n 3, 1) := by decide +kernel
theorem dX6_dug_118 : decode cX6_dug 118 = .ok (.ifCond .ne 8, 3) := by decide +kernel
theorem dX6_dug_121 : decode cX6_dug 121 = .ok (.iload 5, 2) := by decide +kernel
theorem dX6_dug_123 : decode cX6_dug 123 = .ok (.goto 5, 3) := by decide +kernel
theorem dX6_dug_126 : decode cX6_dug 126 = .ok (.iload 6, 2) := by decide +kernel
theorem dX6_dug_128 : decode cX6_dug 128 = .ok (.ireturn, 1) := by decide +kernel
theorem dX6_fee_0 : decode cX6_fee 0 = .ok (.aload_n 0, 1) := by decide +kernel
theorem dX6_fee_1 : decode cX6_fee 1 = .ok (.getfield 46, 3) := by decide +kernel
theorem dX6_fee_4 : decode cX6_fee 4 = .ok (.getfield 215, 3) := by decide +kernel
theorem dX6_fee_7 : decode cX6_fee 7 = .ok (.iconst 1, 1) := by decide +kernel
theorem dX6_fee_8 : decode cX6_fee 8 = .ok (.iaload, 1) := by decide +kernel
theorem dX6_fee_9 : decode cX6_fee 9 = .ok (.istore_n 1, 1) := by decide +kernel
theorem dX6_fee_10 : decode cX6_fee 10 = .ok (.iload_n 1, 1) := by decide +kernel
theorem dX6_fee_11 : decode cX6_fee 11 = .ok (.ifCond .ge 13, 3) := by decide +kernel
theorem dX6_fee_14 : decode cX6_fee 14 = .ok (.aload_n 0, 1) := by decide +kernel
theorem dX6_fee_15 : decode cX6_fee 15 = .ok (.getfield 46, 3) := by decide +kernel
theorem dX6_fee_18 : decode cX6_fee 18 = .ok (.getfield 164, 3) := by decide +kernel
theorem dX6_fee_21 : decode cX6_fee 21 = .ok (.goto 34, 3) := by decide +kernel
theorem dX6_fee_24 : decode cX6_fee 24 = .ok (.aload_n 0, 1) := by decide +kernel
theorem dX6_fee_25 : decode cX6_fee 25 = .ok (.getfield 37, 3) := by decide +kernel
theorem dX6_fee_28 : decode cX6_fee 28 = .ok (.iload_n 1, 1) := by decide +kernel
theorem dX6_fee_29 : decode cX6_fee 29 = .ok (.aaload, 1) := by decide +kernel
theorem dX6_fee_30 : decode cX6_fee 30 = .ok (.aload_n 0, 1) := by decide +kernel
theorem dX6_fee_31 : decode cX6_fee 31 = .ok (.getfield 46, 3) := by decide +kernel
theorem dX6_fee_34 : decode cX6_fee 34 = .ok (.getfield 164, 3) := by decide +kernel
theorem dX6_fee_37 : decode cX6_fee 37 = .ok (.aload_n 0, 1) := by decide +kernel
theorem dX6_fee_38 : decode cX6_fee 38 = .ok (.getfield 46, 3) := by decide +kernel
theorem dX6_fee_41 : decode cX6_fee 41 = .ok (.getfield 167, 3) := by decide +kernel
theorem dX6_fee_44 : decode cX6_fee 44 = .ok (.iconst 0, 1) := by decide +kernel
theorem dX6_fee_45 : decode cX6_fee 45 = .ok (.aload_n 0, 1) := by decide +kernel
theorem dX6_fee_46 : decode cX6_fee 46 = .ok (.getfield 46, 3) := by decide +kernel
theorem dX6_fee_49 : decode cX6_fee 49 = .ok (.getfield 218, 3) := by decide +kernel
theorem dX6_fee_52 : decode cX6_fee 52 = .ok (.invokevirtual 221, 3) := by decide +kernel
theorem dX6_fee_55 : decode cX6_fee 55 = .ok (.ireturn, 1) := by decide +kernel
theorem dX6_fine_0 : decode cX6_fine 0 = .ok (.aload_n 0, 1) := by decide +kernel
theorem dX6_fine_1 : decode cX6_fine 1 = .ok (.getfield 46, 3) := by decide +kernel
theorem dX6_fine_4 : decode cX6_fine 4 = .ok (.iload_n 1, 1) := by decide +kernel
theorem dX6_fine_5 : decode cX6_fine 5 = .ok (.invokevirtual 76, 3) := by decide +kernel
theorem dX6_fine_8 : decode cX6_fine 8 = .ok (.ifCond .ne 6, 3) := by decide +kernel
theorem dX6_fine_11 : decode cX6_fine 11 = .ok (.ldc 66, 2) := by decide +kernel
theorem dX6_fine_13 : decode cX6_fine 13 = .ok (.ireturn, 1) := by decide +kernel
theorem dX6_fine_14 : decode cX6_fine 14 = .ok (.aload_n 0, 1) := by decide +kernel
theorem dX6_fine_15 : decode cX6_fine 15 = .ok (.getfield 46, 3) := by decide +kernel
theorem dX6_fine_18 : decode cX6_fine 18 = .ok (.iload_n 1, 1) := by decide +kernel
theorem dX6_fine_19 : decode cX6_fine 19 = .ok (.invokevirtual 88, 3) := by decide +kernel
theorem dX6_fine_22 : decode cX6_fine 22 = .ok (.istore_n 2, 1) := by decide +kernel
theorem dX6_fine_23 : decode cX6_fine 23 = .ok (.aload_n 0, 1) := by decide +kernel
theorem dX6_fine_24 : decode cX6_fine 24 = .ok (.getfield 46, 3) := by decide +kernel
theorem dX6_fine_27 : decode cX6_fine 27 = .ok (.getfield 215, 3) := by decide +kernel
theorem dX6_fine_30 : decode cX6_fine 30 = .ok (.iconst 2, 1) := by decide +kernel
theorem dX6_fine_31 : decode cX6_fine 31 = .ok (.iaload, 1) := by decide +kernel
theorem dX6_fine_32 : decode cX6_fine 32 = .ok (.istore_n 3, 1) := by decide +kernel
theorem dX6_fine_33 : decode cX6_fine 33 = .ok (.iload_n 3, 1) := by decide +kernel
theorem dX6_fine_34 : decode cX6_fine 34 = .ok (.ifCond .ge 7, 3) := by decide +kernel
theorem dX6_fine_37 : decode cX6_fine 37 = .ok (.iload_n 2, 1) := by decide +kernel
theorem dX6_fine_38 : decode cX6_fine 38 = .ok (.goto 29, 3) := by decide +kernel
theorem dX6_fine_41 : decode cX6_fine 41 = .ok (.aload_n 0, 1) := by decide +kernel
theorem dX6_fine_42 : decode cX6_fine 42 = .ok (.getfield 37, 3) := by decide +kernel
theorem dX6_fine_45 : decode cX6_fine 45 = .ok (.iload_n 3, 1) := by decide +kernel
theorem dX6_fine_46 : decode cX6_fine 46 = .ok (.aaload, 1) := by decide +kernel
theorem dX6_fine_47 : decode cX6_fine 47 = .ok (.iload_n 2, 1) := by decide +kernel
theorem dX6_fine_48 : decode cX6_fine 48 = .ok (.aload_n 0, 1) := by decide +kernel
theorem dX6_fine_49 : decode cX6_fine 49 = .ok (.getfield 46, 3) := by decide +kernel
theorem dX6_fine_52 : decode cX6_fine 52 = .ok (.iload_n 1, 1) := by decide +kernel
theorem dX6_fine_53 : decode cX6_fine 53 = .ok (.invokevirtual 95, 3) := by decide +kernel
theorem dX6_fine_56 : decode cX6_fine 56 = .ok (.iconst 0, 1) := by decide +kernel
theorem dX6_fine_57 : decode cX6_fine 57 = .ok (.aload_n 0, 1) := by decide +kernel
theorem dX6_fine_58 : decode cX6_fine 58 = .ok (.getfield 46, 3) := by decide +kernel
theorem dX6_fine_61 : decode cX6_fine 61 = .ok (.getfield 218, 3) := by decide +kernel
theorem dX6_fine_64 : decode cX6_fine 64 = .ok (.invokevirtual 221, 3) := by decide +kernel
theorem dX6_fine_67 : decode cX6_fine 67 = .ok (.ireturn, 1) := by decide +kernel
theorem dX6_feed_0 : decode cX6_feed 0 = .ok (.aload_n 0, 1) := by decide +kernel
theorem dX6_feed_1 : decode cX6_feed 1 = .ok (.getfield 10, 3) := by decide +kernel
theorem dX6_feed_4 : decode cX6_feed 4 = .ok (.getfield 225, 3) := by decide +kernel
theorem dX6_feed_7 : decode cX6_feed 7 = .ok (.bipush 84, 2) := by decide +kernel
theorem dX6_feed_9 : decode cX6_feed 9 = .ok (.if_icmp .le 6, 3) := by decide +kernel
theorem dX6_feed_12 : decode cX6_feed 12 = .ok (.ldc 75, 2) := by decide +kernel
theorem dX6_feed_14 : decode cX6_feed 14 = .ok (.ireturn, 1) := by decide +kernel
theorem dX6_feed_15 : decode cX6_feed 15 = .ok (.aload_n 0, 1) := by decide +kernel
theorem dX6_feed_16 : decode cX6_feed 16 = .ok (.getfield 10, 3) := by decide +kernel
theorem dX6_feed_19 : decode cX6_feed 19 = .ok (.iload_n 1, 1) := by decide +kernel
theorem dX6_feed_20 : decode cX6_feed 20 = .ok (.invokevirtual 228, 3) := by decide +kernel
theorem dX6_feed_23 : decode cX6_feed 23 = .ok (.aload_n 0, 1) := by decide +kernel
theorem dX6_feed_24 : decode cX6_feed 24 = .ok (.getfield 10, 3) := by decide +kernel
theorem dX6_feed_27 : decode cX6_feed 27 = .ok (.iload_n 2, 1) := by decide +kernel
theorem dX6_feed_28 : decode cX6_feed 28 = .ok (.invokevirtual 228, 3) := by decide +kernel
theorem dX6_feed_31 : decode cX6_feed 31 = .ok (.aload_n 0, 1) := by decide +kernel
theorem dX6_feed_32 : decode cX6_feed 32 = .ok (.getfield 10, 3) := by decide +kernel
theorem dX6_feed_35 : decode cX6_feed 35 = .ok (.iload_n 3, 1) := by decide +kernel
theorem dX6_feed_36 : decode cX6_feed 36 = .ok (.invokevirtual 228, 3) := by decide +kernel
theorem dX6_feed_39 : decode cX6_feed 39 = .ok (.aload_n 0, 1) := by decide +kernel
theorem dX6_feed_40 : decode cX6_feed 40 = .ok (.getfield 10, 3) := by decide +kernel
theorem dX6_feed_43 : decode cX6_feed 43 = .ok (.getfield 225, 3) := by decide +kernel
theorem dX6_feed_46 : decode cX6_feed 46 = .ok (.ireturn, 1) := by decide +kernel
theorem dX6_trim_0 : decode cX6_trim 0 = .ok (.iload_n 1, 1) := by decide +kernel
theorem dX6_trim_1 : decode cX6_trim 1 = .ok (.iconst 0, 1) := by decide +kernel
theorem dX6_trim_2 : decode cX6_trim 2 = .ok (.aload_n 0, 1) := by decide +kernel
theorem dX6_trim_3 : decode cX6_trim 3 = .ok (.getfield 10, 3) := by decide +kernel
theorem dX6_trim_6 : decode cX6_trim 6 = .ok (.getfield 225, 3) := by decide +kernel
theorem dX6_trim_9 : decode cX6_trim 9 = .ok (.invokestatic 108, 3) := by decide +kernel
theorem dX6_trim_12 : decode cX6_trim 12 = .ok (.ifCond .ne 6, 3) := by decide +kernel
theorem dX6_trim_15 : decode cX6_trim 15 = .ok (.ldc 66, 2) := by decide +kernel
theorem dX6_trim_17 : decode cX6_trim 17 = .ok (.ireturn, 1) := by decide +kernel
theorem dX6_trim_18 : decode cX6_trim 18 = .ok (.aload_n 0, 1) := by decide +kernel
theorem dX6_trim_19 : decode cX6_trim 19 = .ok (.getfield 10, 3) := by decide +kernel
theorem dX6_trim_22 : decode cX6_trim 22 = .ok (.iload_n 1, 1) := by decide +kernel
theorem dX6_trim_23 : decode cX6_trim 23 = .ok (.putfield 225, 3) := by decide +kernel
theorem dX6_trim_26 : decode cX6_trim 26 = .ok (.iload_n 1, 1) := by decide +kernel
theorem dX6_trim_27 : decode cX6_trim 27 = .ok (.ireturn, 1) := by decide +kernel
theorem dX6_text_0 : decode cX6_text 0 = .ok (.aload_n 0, 1) := by decide +kernel
theorem dX6_text_1 : decode cX6_text 1 = .ok (.getfield 10, 3) := by decide +kernel
theorem dX6_text_4 : decode cX6_text 4 = .ok (.invokevirtual 231, 3) := by decide +kernel
theorem dX6_text_7 : decode cX6_text 7 = .ok (.istore_n 1, 1) := by decide +kernel
theorem dX6_text_8 : decode cX6_text 8 = .ok (.aload_n 0, 1) := by decide +kernel
theorem dX6_text_9 : decode cX6_text 9 = .ok (.getfield 10, 3) := by decide +kernel
theorem dX6_text_12 : decode cX6_text 12 = .ok (.iconst 0, 1) := by decide +kernel
theorem dX6_text_13 : decode cX6_text 13 = .ok (.putfield 225, 3) := by decide +kernel
theorem dX6_text_16 : decode cX6_text 16 = .ok (.iload_n 1, 1) := by decide +kernel
theorem dX6_text_17 : decode cX6_text 17 = .ok (.ifCond .lt 8, 3) := by decide +kernel
theorem dX6_text_20 : decode cX6_text 20 = .ok (.bipush (-100), 2) := by decide +kernel
theorem dX6_text_22 : decode cX6_text 22 = .ok (.iload_n 1, 1) := by decide +kernel
theorem dX6_text_23 : decode cX6_text 23 = .ok (.isub, 1) := by decide +kernel
theorem dX6_text_24 : decode cX6_text 24 = .ok (.ireturn, 1) := by decide +kernel
theorem dX6_text_25 : decode cX6_text 25 = .ok (.aload_n 0, 1) := by decide +kernel
theorem dX6_text_26 : decode cX6_text 26 = .ok (.getfield 46, 3) := by decide +kernel
theorem dX6_text_29 : decode cX6_text 29 = .ok (.getfield 234, 3) := by decide +kernel
theorem dX6_text_32 : decode cX6_text 32 = .ok (.bipush 14, 2) := by decide +kernel
theorem dX6_text_34 : decode cX6_text 34 = .ok (.if_icmp .lt 6, 3) := by decide +kernel
theorem dX6_text_37 : decode cX6_text 37 = .ok (.ldc 75, 2) := by decide +kernel
theorem dX6_text_39 : decode cX6_text 39 = .ok (.ireturn, 1) := by decide +kernel
theorem dX6_text_40 : decode cX6_text 40 = .ok (.aload_n 0, 1) := by decide +kernel
theorem dX6_text_41 : decode cX6_text 41 = .ok (.getfield 46, 3) := by decide +kernel
theorem dX6_text_44 : decode cX6_text 44 = .ok (.getfield 234, 3) := by decide +kernel
theorem dX6_text_47 : decode cX6_text 47 = .ok (.istore_n 2, 1) := by decide +kernel
theorem dX6_text_48 : decode cX6_text 48 = .ok (.aload_n 0, 1) := by decide +kernel
theorem dX6_text_49 : decode cX6_text 49 = .ok (.getfield 37, 3) := by decide +kernel
theorem dX6_text_52 : decode cX6_text 52 = .ok (.iload_n 2, 1) := by decide +kernel
theorem dX6_text_53 : decode cX6_text 53 = .ok (.aaload, 1) := by decide +kernel
theorem dX6_text_54 : decode cX6_text 54 = .ok (.aload_n 0, 1) := by decide +kernel
theorem dX6_text_55 : decode cX6_text 55 = .ok (.getfield 10, 3) := by decide +kernel
theorem dX6_text_58 : decode cX6_text 58 = .ok (.getfield 237, 3) := by decide +kernel
theorem dX6_text_61 : decode cX6_text 61 = .ok (.invokevirtual 241, 3) := by decide +kernel
theorem dX6_text_64 : decode cX6_text 64 = .ok (.aload_n 0, 1) := by decide +kernel
theorem dX6_text_65 : decode cX6_text 65 = .ok (.getfield 46, 3) := by decide +kernel
theorem dX6_text_68 : decode cX6_text 68 = .ok (.aload_n 0, 1) := by decide +kernel
theorem dX6_text_69 : decode cX6_text 69 = .ok (.getfield 10, 3) := by decide +kernel
theorem dX6_text_72 : decode cX6_text 72 = .ok (.getfield 237, 3) := by decide +kernel
theorem dX6_text_75 : decode cX6_text 75 = .ok (.getfield 245, 3) := by decide +kernel
theorem dX6_text_78 : decode cX6_text 78 = .ok (.invokevirtual 248, 3) := by decide +kernel
theorem dX6_text_81 : decode cX6_text 81 = .ok (.iload_n 2, 1) := by decide +kernel
theorem dX6_text_82 : decode cX6_text 82 = .ok (.ireturn, 1) := by decide +kernel
theorem dX6_textTold_0 : decode cX6_textTold 0 = .ok (.iload_n 1, 1) := by decide +kernel
theorem dX6_textTold_1 : decode cX6_textTold 1 = .ok (.iconst 0, 1) := by decide +kernel
theorem dX6_textTold_2 : decode cX6_textTold 2 = .ok (.aload_n 0, 1) := by decide +kernel
theorem dX6_textTold_3 : decode cX6_textTold 3 = .ok (.getfield 46, 3) := by decide +kernel
theorem dX6_textTold_6 : decode cX6_textTold 6 = .ok (.getfield 234, 3) := by decide +kernel
theorem dX6_textTold_9 : decode cX6_textTold 9 = .ok (.iconst 1, 1) := by decide +kernel
theorem dX6_textTold_10 : decode cX6_textTold 10 = .ok (.isub, 1) := by decide +kernel
theorem dX6_textTold_11 : decode cX6_textTold 11 = .ok (.invokestatic 108, 3) := by decide +kernel
theorem dX6_textTold_14 : decode cX6_textTold 14 = .ok (.ifCond .eq 12, 3) := by decide +kernel
theorem dX6_textTold_17 : decode cX6_textTold 17 = .ok (.iload_n 2, 1) := by decide +kernel
theorem dX6_textTold_18 : decode cX6_textTold 18 = .ok (.iconst 0, 1) := by decide +kernel
theorem dX6_textTold_19 : decode cX6_textTold 19 = .ok (.iconst 1, 1) := by decide +kernel
theorem dX6_textTold_20 : decode cX6_textTold 20 = .ok (.invokestatic 108, 3) := by decide +kernel
theorem dX6_textTold_23 : decode cX6_textTold 23 = .ok (.ifCond .ne 6, 3) := by decide +kernel
theorem dX6_textTold_26 : decode cX6_textTold 26 = .ok (.ldc 66, 2) := by decide +kernel
theorem dX6_textTold_28 : decode cX6_textTold 28 = .ok (.ireturn, 1) := by decide +kernel
theorem dX6_textTold_29 : decode cX6_textTold 29 = .ok (.iload_n 2, 1) := by decide +kernel
theorem dX6_textTold_30 : decode cX6_textTold 30 = .ok (.ifCond .ne 15, 3) := by decide +kernel
theorem dX6_textTold_33 : decode cX6_textTold 33 = .ok (.aload_n 0, 1) := by decide +kernel
theorem dX6_textTold_34 : decode cX6_textTold 34 = .ok (.getfield 37, 3) := by decide +kernel
theorem dX6_textTold_37 : decode cX6_textTold 37 = .ok (.iload_n 1, 1) := by decide +kernel
theorem dX6_textTold_38 : decode cX6_textTold 38 = .ok (.aaload, 1) := by decide +kernel
theorem dX6_textTold_39 : decode cX6_textTold 39 = .ok (.getfield 245, 3) := by decide +kernel
theorem dX6_textTold_42 : decode cX6_textTold 42 = .ok (.goto 12, 3) := by decide +kernel
theorem dX6_textTold_45 : decode cX6_textTold 45 = .ok (.aload_n 0, 1) := by decide +kernel
theorem dX6_textTold_46 : decode cX6_textTold 46 = .ok (.getfield 37, 3) := by decide +kernel
theorem dX6_textTold_49 : decode cX6_textTold 49 = .ok (.iload_n 1, 1) := by decide +kernel
theorem dX6_textTold_50 : decode cX6_textTold 50 = .ok (.aaload, 1) := by decide +kernel
theorem dX6_textTold_51 : decode cX6_textTold 51 = .ok (.getfield 251, 3) := by decide +kernel
theorem dX6_textTold_54 : decode cX6_textTold 54 = .ok (.ireturn, 1) := by decide +kernel
theorem dX6_why_0 : decode cX6_why 0 = .ok (.iload_n 1, 1) := by decide +kernel
theorem dX6_why_1 : decode cX6_why 1 = .ok (.iconst 0, 1) := by decide +kernel
theorem dX6_why_2 : decode cX6_why 2 = .ok (.iconst 2, 1) := by decide +kernel
theorem dX6_why_3 : decode cX6_why 3 = .ok (.invokestatic 108, 3) := by decide +kernel
theorem dX6_why_6 : decode cX6_why 6 = .ok (.ifCond .ne 6, 3) := by decide +kernel
theorem dX6_why_9 : decode cX6_why 9 = .ok (.ldc 66, 2) := by decide +kernel
theorem dX6_why_11 : decode cX6_why 11 = .ok (.ireturn, 1) := by decide +kernel
theorem dX6_why_12 : decode cX6_why 12 = .ok (.aload_n 0, 1) := by decide +kernel
theorem dX6_why_13 : decode cX6_why 13 = .ok (.getfield 46, 3) := by decide +kernel
theorem dX6_why_16 : decode cX6_why 16 = .ok (.getfield 215, 3) := by decide +kernel
theorem dX6_why_19 : decode cX6_why 19 = .ok (.iload_n 1, 1) := by decide +kernel
theorem dX6_why_20 : decode cX6_why 20 = .ok (.iaload, 1) := by decide +kernel
theorem dX6_why_21 : decode cX6_why 21 = .ok (.ifCond .ge 8, 3) := by decide +kernel
theorem dX6_why_24 : decode cX6_why 24 = .ok (.ldc 189, 2) := by decide +kernel
theorem dX6_why_26 : decode cX6_why 26 = .ok (.goto 12, 3) := by decide +kernel
theorem dX6_why_29 : decode cX6_why 29 = .ok (.aload_n 0, 1) := by decide +kernel
theorem dX6_why_30 : decode cX6_why 30 = .ok (.getfield 46, 3) := by decide +kernel
theorem dX6_why_33 : decode cX6_why 33 = .ok (.getfield 215, 3) := by decide +kernel
theorem dX6_why_36 : decode cX6_why 36 = .ok (.iload_n 1, 1) := by decide +kernel
theorem dX6_why_37 : decode cX6_why 37 = .ok (.iaload, 1) := by decide +kernel
theorem dX6_why_38 : decode cX6_why 38 = .ok (.ireturn, 1) := by decide +kernel
theorem dX6_sheet_0 : decode cX6_sheet 0 = .ok (.iload_n 1, 1) := by decide +kernel
theorem dX6_sheet_1 : decode cX6_sheet 1 = .ok (.invokestatic 203, 3) := by decide +kernel
theorem dX6_sheet_4 : decode cX6_sheet 4 = .ok (.ifCond .eq 12, 3) := by decide +kernel
theorem dX6_sheet_7 : decode cX6_sheet 7 = .ok (.iload_n 2, 1) := by decide +kernel
theorem dX6_sheet_8 : decode cX6_sheet 8 = .ok (.iconst (-1), 1) := by decide +kernel
theorem dX6_sheet_9 : decode cX6_sheet 9 = .ok (.iconst 1, 1) := by decide +kernel
theorem dX6_sheet_10 : decode cX6_sheet 10 = .ok (.invokestatic 108, 3) := by decide +kernel
theorem dX6_sheet_13 : decode cX6_sheet 13 = .ok (.ifCond .ne 6, 3) := by decide +kernel
theorem dX6_sheet_16 : decode cX6_sheet 16 = .ok (.ldc 66, 2) := by decide +kernel
theorem dX6_sheet_18 : decode cX6_sheet 18 = .ok (.ireturn, 1) := by decide +kernel
theorem dX6_sheet_19 : decode cX6_sheet 19 = .ok (.iload_n 2, 1) := by decide +kernel
theorem dX6_sheet_20 : decode cX6_sheet 20 = .ok (.iconst (-1), 1) := by decide +kernel
theorem dX6_sheet_21 : decode cX6_sheet 21 = .ok (.if_icmp .ne 7, 3) := by decide +kernel
theorem dX6_sheet_24 : decode cX6_sheet 24 = .ok (.iconst 0, 1) := by decide +kernel
theorem dX6_sheet_25 : decode cX6_sheet 25 = .ok (.goto 4, 3) := by decide +kernel
theorem dX6_sheet_28 : decode cX6_sheet 28 = .ok (.iload_n 3, 1) := by decide +kernel
theorem dX6_sheet_29 : decode cX6_sheet 29 = .ok (.istore 4, 2) := by decide +kernel
theorem dX6_sheet_31 : decode cX6_sheet 31 = .ok (.iload 4, 2) := by decide +kernel
theorem dX6_sheet_33 : decode cX6_sheet 33 = .ok (.bipush 24, 2) := by decide +kernel
theorem dX6_sheet_35 : decode cX6_sheet 35 = .ok (.if_icmp .le 6, 3) := by decide +kernel
theorem dX6_sheet_38 : decode cX6_sheet 38 = .ok (.ldc 66, 2) := by decide +kernel
theorem dX6_sheet_40 : decode cX6_sheet 40 = .ok (.ireturn, 1) := by decide +kernel
theorem dX6_sheet_41 : decode cX6_sheet 41 = .ok (.iload 4, 2) := by decide +kernel
theorem dX6_sheet_43 : decode cX6_sheet 43 = .ok (.ifCond .ge 6, 3) := by decide +kernel
theorem dX6_sheet_46 : decode cX6_sheet 46 = .ok (.ldc 254, 2) := by decide +kernel
theorem dX6_sheet_48 : decode cX6_sheet 48 = .ok (.ireturn, 1) := by decide +kernel
theorem dX6_sheet_49 : decode cX6_sheet 49 = .ok (.aload_n 0, 1) := by decide +kernel
theorem dX6_sheet_50 : decode cX6_sheet 50 = .ok (.getfield 18, 3) := by decide +kernel
theorem dX6_sheet_53 : decode cX6_sheet 53 = .ok (.iload_n 1, 1) := by decide +kernel
theorem dX6_sheet_54 : decode cX6_sheet 54 = .ok (.aaload, 1) := by decide +kernel
theorem dX6_sheet_55 : decode cX6_sheet 55 = .ok (.iload_n 2, 1) := by decide +kernel
theorem dX6_sheet_56 : decode cX6_sheet 56 = .ok (.iload 4, 2) := by decide +kernel
theorem dX6_sheet_58 : decode cX6_sheet 58 = .ok (.invokevirtual 255, 3) := by decide +kernel
theorem dX6_sheet_61 : decode cX6_sheet 61 = .ok (.iload 4, 2) := by decide +kernel
theorem dX6_sheet_63 : decode cX6_sheet 63 = .ok (.ireturn, 1) := by decide +kernel
theorem dX6_mark_0 : decode cX6_mark 0 = .ok (.iload_n 1, 1) := by decide +kernel
theorem dX6_mark_1 : decode cX6_mark 1 = .ok (.invokestatic 203, 3) := by decide +kernel
theorem dX6_mark_4 : decode cX6_mark 4 = .ok (.ifCond .ne 6, 3) := by decide +kernel
theorem dX6_mark_7 : decode cX6_mark 7 = .ok (.ldc 66, 2) := by decide +kernel
theorem dX6_mark_9 : decode cX6_mark 9 = .ok (.ireturn, 1) := by decide +kernel
theorem dX6_mark_10 : decode cX6_mark 10 = .ok (.aload_n 0, 1) := by decide +kernel
theorem dX6_mark_11 : decode cX6_mark 11 = .ok (.getfield 18, 3) := by decide +kernel
theorem dX6_mark_14 : decode cX6_mark 14 = .ok (.iload_n 1, 1) := by decide +kernel
theorem dX6_mark_15 : decode cX6_mark 15 = .ok (.aaload, 1) := by decide +kernel
theorem dX6_mark_16 : decode cX6_mark 16 = .ok (.astore 4, 2) := by decide +kernel
theorem dX6_mark_18 : decode cX6_mark 18 = .ok (.aload 4, 2) := by decide +kernel
theorem dX6_mark_20 : decode cX6_mark 20 = .ok (.invokevirtual 206, 3) := by decide +kernel
theorem dX6_mark_23 : decode cX6_mark 23 = .ok (.ifCond .eq 6, 3) := by decide +kernel
theorem dX6_mark_26 : decode cX6_mark 26 = .ok (.ldc 210, 2) := by decide +kernel
theorem dX6_mark_28 : decode cX6_mark 28 = .ok (.ireturn, 1) := by decide +kernel
theorem dX6_mark_29 : decode cX6_mark 29 = .ok (.aload 4, 2) := by decide +kernel
theorem dX6_mark_31 : decode cX6_mark 31 = .ok (.iload_n 2, 1) := by decide +kernel
theorem dX6_mark_32 : decode cX6_mark 32 = .ok (.invokevirtual 258, 3) := by decide +kernel
theorem dX6_mark_35 : decode cX6_mark 35 = .ok (.ifCond .ne 7, 3) := by decide +kernel
theorem dX6_mark_38 : decode cX6_mark 38 = .ok (.ldc_w 261, 3) := by decide +kernel
theorem dX6_mark_41 : decode cX6_mark 41 = .ok (.ireturn, 1) := by decide +kernel
theorem dX6_mark_42 : decode cX6_mark 42 = .ok (.aload 4, 2) := by decide +kernel
theorem dX6_mark_44 : decode cX6_mark 44 = .ok (.getfield 262, 3) := by decide +kernel
theorem dX6_mark_47 : decode cX6_mark 47 = .ok (.ifCond .ne 12, 3) := by decide +kernel
theorem dX6_mark_50 : decode cX6_mark 50 = .ok (.iload_n 3, 1) := by decide +kernel
theorem dX6_mark_51 : decode cX6_mark 51 = .ok (.ldc 189, 2) := by decide +kernel
theorem dX6_mark_53 : decode cX6_mark 53 = .ok (.if_icmp .ne 6, 3) := by decide +kernel
theorem dX6_mark_56 : decode cX6_mark 56 = .ok (.ldc 118, 2) := by decide +kernel
theorem dX6_mark_58 : decode cX6_mark 58 = .ok (.ireturn, 1) := by decide +kernel
theorem dX6_mark_59 : decode cX6_mark 59 = .ok (.aload 4, 2) := by decide +kernel
theorem dX6_mark_61 : decode cX6_mark 61 = .ok (.getfield 262, 3) := by decide +kernel
theorem dX6_mark_64 : decode cX6_mark 64 = .ok (.iconst 1, 1) := by decide +kernel
theorem dX6_mark_65 : decode cX6_mark 65 = .ok (.if_icmp .ne 25, 3) := by decide +kernel
theorem dX6_mark_68 : decode cX6_mark 68 = .ok (.iload_n 3, 1) := by decide +kernel
theorem dX6_mark_69 : decode cX6_mark 69 = .ok (.ldc 189, 2) := by decide +kernel
theorem dX6_mark_71 : decode cX6_mark 71 = .ok (.if_icmp .eq 19, 3) := by decide +kernel
theorem dX6_mark_74 : decode cX6_mark 74 = .ok (.iload_n 3, 1) := by decide +kernel
theorem dX6_mark_75 : decode cX6_mark 75 = .ok (.ldc_w 265, 3) := by decide +kernel
theorem dX6_mark_78 : decode cX6_mark 78 = .ok (.ldc_w 266, 3) := by decide +kernel
theorem dX6_mark_81 : decode cX6_mark 81 = .ok (.invokestatic 108, 3) := by decide +kernel
theorem dX6_mark_84 : decode cX6_mark 84 = .ok (.ifCond .ne 6, 3) := by decide +kernel
theorem dX6_mark_87 : decode cX6_mark 87 = .ok (.ldc 66, 2) := by decide +kernel
theorem dX6_mark_89 : decode cX6_mark 89 = .ok (.ireturn, 1) := by decide +kernel
theorem dX6_mark_90 : decode cX6_mark 90 = .ok (.aload 4, 2) := by decide +kernel
theorem dX6_mark_92 : decode cX6_mark 92 = .ok (.getfield 267, 3) := by decide +kernel
theorem dX6_mark_95 : decode cX6_mark 95 = .ok (.iload_n 2, 1) := by decide +kernel
theorem dX6_mark_96 : decode cX6_mark 96 = .ok (.aload 4, 2) := by decide +kernel
theorem dX6_mark_98 : decode cX6_mark 98 = .ok (.getfield 262, 3) := by decide +kernel
theorem dX6_mark_101 : decode cX6_mark 101 = .ok (.ifCond .ne 8, 3) := by decide +kernel
theorem dX6_mark_104 : decode cX6_mark 104 = .ok (.iload_n 3, 1) := by decide +kernel
theorem dX6_mark_105 : decode cX6_mark 105 = .ok (.i2s, 1) := by decide +kernel
theorem dX6_mark_106 : decode cX6_mark 106 = .ok (.goto 4, 3) := by decide +kernel
theorem dX6_mark_109 : decode cX6_mark 109 = .ok (.iload_n 3, 1) := by decide +kernel
theorem dX6_mark_110 : decode cX6_mark 110 = .ok (.iastore, 1) := by decide +kernel
theorem dX6_mark_111 : decode cX6_mark 111 = .ok (.iconst 1, 1) := by decide +kernel
theorem dX6_mark_112 : decode cX6_mark 112 = .ok (.ireturn, 1) := by decide +kernel
theorem dX6_pour_0 : decode cX6_pour 0 = .ok (.iload_n 1, 1) := by decide +kernel
theorem dX6_pour_1 : decode cX6_pour 1 = .ok (.invokestatic 203, 3) := by decide +kernel
theorem dX6_pour_4 : decode cX6_pour 4 = .ok (.ifCond .ne 6, 3) := by decide +kernel
theorem dX6_pour_7 : decode cX6_pour 7 = .ok (.ldc 66, 2) := by decide +kernel
theorem dX6_pour_9 : decode cX6_pour 9 = .ok (.ireturn, 1) := by decide +kernel
theorem dX6_pour_10 : decode cX6_pour 10 = .ok (.aload_n 0, 1) := by decide +kernel
theorem dX6_pour_11 : decode cX6_pour 11 = .ok (.getfield 18, 3) := by decide +kernel
theorem dX6_pour_14 : decode cX6_pour 14 = .ok (.iload_n 1, 1) := by decide +kernel
theorem dX6_pour_15 : decode cX6_pour 15 = .ok (.aaload, 1) := by decide +kernel
theorem dX6_pour_16 : decode cX6_pour 16 = .ok (.astore_n 2, 1) := by decide +kernel
theorem dX6_pour_17 : decode cX6_pour 17 = .ok (.aload_n 2, 1) := by decide +kernel
theorem dX6_pour_18 : decode cX6_pour 18 = .ok (.invokevirtual 206, 3) := by decide +kernel
theorem dX6_pour_21 : decode cX6_pour 21 = .ok (.ifCond .eq 6, 3) := by decide +kernel
theorem dX6_pour_24 : decode cX6_pour 24 = .ok (.ldc 210, 2) := by decide +kernel
theorem dX6_pour_26 : decode cX6_pour 26 = .ok (.ireturn, 1) := by decide +kernel
theorem dX6_pour_27 : decode cX6_pour 27 = .ok (.iconst 0, 1) := by decide +kernel
theorem dX6_pour_28 : decode cX6_pour 28 = .ok (.istore_n 3, 1) := by decide +kernel
theorem dX6_pour_29 : decode cX6_pour 29 = .ok (.iconst 0, 1) := by decide +kernel
theorem dX6_pour_30 : decode cX6_pour 30 = .ok (.istore 4, 2) := by decide +kernel
theorem dX6_pour_32 : decode cX6_pour 32 = .ok (.iload 4, 2) := by decide +kernel
theorem dX6_pour_34 : decode cX6_pour 34 = .ok (.aload_n 0, 1) := by decide +kernel
theorem dX6_pour_35 : decode cX6_pour 35 = .ok (.getfield 46, 3) := by decide +kernel
theorem dX6_pour_38 : decode cX6_pour 38 = .ok (.getfield 67, 3) := by decide +kernel
theorem dX6_pour_41 : decode cX6_pour 41 = .ok (.if_icmp .ge 89, 3) := by decide +kernel
theorem dX6_pour_44 : decode cX6_pour 44 = .ok (.aload_n 2, 1) := by decide +kernel
theorem dX6_pour_45 : decode cX6_pour 45 = .ok (.iload 4, 2) := by decide +kernel
theorem dX6_pour_47 : decode cX6_pour 47 = .ok (.invokevirtual 270, 3) := by decide +kernel
theorem dX6_pour_50 : decode cX6_pour 50 = .ok (.ifCond .eq 74, 3) := by decide +kernel
theorem dX6_pour_53 : decode cX6_pour 53 = .ok (.aload_n 0, 1) := by decide +kernel
theorem dX6_pour_54 : decode cX6_pour 54 = .ok (.getfield 46, 3) := by decide +kernel
theorem dX6_pour_57 : decode cX6_pour 57 = .ok (.getfield 105, 3) := by decide +kernel
theorem dX6_pour_60 : decode cX6_pour 60 = .ok (.iload 4, 2) := by decide +kernel
theorem dX6_pour_62 : decode cX6_pour 62 = .ok (.iconst 3, 1) := by decide +kernel
theorem dX6_pour_63 : decode cX6_pour 63 = .ok (.imul, 1) := by decide +kernel
theorem dX6_pour_64 : decode cX6_pour 64 = .ok (.iaload, 1) := by decide +kernel
theorem dX6_pour_65 : decode cX6_pour 65 = .ok (.istore 5, 2) := by decide +kernel
theorem dX6_pour_67 : decode cX6_pour 67 = .ok (.iconst 0, 1) := by decide +kernel
theorem dX6_pour_68 : decode cX6_pour 68 = .ok (.sipush 999, 3) := by decide +kernel
theorem dX6_pour_71 : decode cX6_pour 71 = .ok (.aload_n 2, 1) := by decide +kernel
theorem dX6_pour_72 : decode cX6_pour 72 = .ok (.getfield 267, 3) := by decide +kernel
theorem dX6_pour_75 : decode cX6_pour 75 = .ok (.iload 4, 2) := by decide +kernel
theorem dX6_pour_77 : decode cX6_pour 77 = .ok (.iaload, 1) := by decide +kernel
theorem dX6_pour_78 : decode cX6_pour 78 = .ok (.invokestatic 153, 3) := by decide +kernel
theorem dX6_pour_81 : decode cX6_pour 81 = .ok (.invokestatic 273, 3) := by decide +kernel
theorem dX6_pour_84 : decode cX6_pour 84 = .ok (.istore 6, 2) := by decide +kernel
theorem dX6_pour_86 : decode cX6_pour 86 = .ok (.aload_n 0, 1) := by decide +kernel
theorem dX6_pour_87 : decode cX6_pour 87 = .ok (.getfield 46, 3) := by decide +kernel
theorem dX6_pour_90 : decode cX6_pour 90 = .ok (.getfield 105, 3) := by decide +kernel
theorem dX6_pour_93 : decode cX6_pour 93 = .ok (.iload 4, 2) := by decide +kernel
theorem dX6_pour_95 : decode cX6_pour 95 = .ok (.iconst 3, 1) := by decide +kernel
theorem dX6_pour_96 : decode cX6_pour 96 = .ok (.imul, 1) := by decide +kernel
theorem dX6_pour_97 : decode cX6_pour 97 = .ok (.iload 6, 2) := by decide +kernel
theorem dX6_pour_99 : decode cX6_pour 99 = .ok (.iastore, 1) := by decide +kernel
theorem dX6_pour_100 : decode cX6_pour 100 = .ok (.aload_n 0, 1) := by decide +kernel
theorem dX6_pour_101 : decode cX6_pour 101 = .ok (.getfield 46, 3) := by decide +kernel
theorem dX6_pour_104 : decode cX6_pour 104 = .ok (.iload 4, 2) := by decide +kernel
theorem dX6_pour_106 : decode cX6_pour 106 = .ok (.invokevirtual 119, 3) := by decide +kernel
theorem dX6_pour_109 : decode cX6_pour 109 = .ok (.iload_n 3, 1) := by decide +kernel
theorem dX6_pour_110 : decode cX6_pour 110 = .ok (.iload 6, 2) := by decide +kernel
theorem dX6_pour_112 : decode cX6_pour 112 = .ok (.iload 5, 2) := by decide +kernel
theorem dX6_pour_114 : decode cX6_pour 114 = .ok (.if_icmp .ne 7, 3) := by decide +kernel
theorem dX6_pour_117 : decode cX6_pour 117 = .ok (.iconst 0, 1) := by decide +kernel
theorem dX6_pour_118 : decode cX6_pour 118 = .ok (.goto 4, 3) := by decide +kernel
theorem dX6_pour_121 : decode cX6_pour 121 = .ok (.iconst 1, 1) := by decide +kernel
theorem dX6_pour_122 : decode cX6_pour 122 = .ok (.iadd, 1) := by decide +kernel
theorem dX6_pour_123 : decode cX6_pour 123 = .ok (.istore_n 3, 1) := by decide +kernel
theorem dX6_pour_124 : decode cX6_pour 124 = .ok (.iinc 4 1, 3) := by decide +kernel
theorem dX6_pour_127 : decode cX6_pour 127 = .ok (.goto (-95), 3) := by decide +kernel
theorem dX6_pour_130 : decode cX6_pour 130 = .ok (.iload_n 3, 1) := by decide +kernel
theorem dX6_pour_131 : decode cX6_pour 131 = .ok (.ireturn, 1) := by decide +kernel
theorem dX6_reads_0 : decode cX6_reads 0 = .ok (.iload_n 1, 1) := by decide +kernel
theorem dX6_reads_1 : decode cX6_reads 1 = .ok (.invokestatic 203, 3) := by decide +kernel
theorem dX6_reads_4 : decode cX6_reads 4 = .ok (.ifCond .ne 6, 3) := by decide +kernel
theorem dX6_reads_7 : decode cX6_reads 7 = .ok (.ldc 66, 2) := by decide +kernel
theorem dX6_reads_9 : decode cX6_reads 9 = .ok (.ireturn, 1) := by decide +kernel
theorem dX6_reads_10 : decode cX6_reads 10 = .ok (.aload_n 0, 1) := by decide +kernel
theorem dX6_reads_11 : decode cX6_reads 11 = .ok (.getfield 18, 3) := by decide +kernel
theorem dX6_reads_14 : decode cX6_reads 14 = .ok (.iload_n 1, 1) := by decide +kernel
theorem dX6_reads_15 : decode cX6_reads 15 = .ok (.aaload, 1) := by decide +kernel
theorem dX6_reads_16 : decode cX6_reads 16 = .ok (.astore_n 2, 1) := by decide +kernel
theorem dX6_reads_17 : decode cX6_reads 17 = .ok (.aload_n 2, 1) := by decide +kernel
theorem dX6_reads_18 : decode cX6_reads 18 = .ok (.invokevirtual 206, 3) := by decide +kernel
theorem dX6_reads_21 : decode cX6_reads 21 = .ok (.ifCond .eq 6, 3) := by decide +kernel
theorem dX6_reads_24 : decode cX6_reads 24 = .ok (.ldc 210, 2) := by decide +kernel
theorem dX6_reads_26 : decode cX6_reads 26 = .ok (.ireturn, 1) := by decide +kernel
theorem dX6_reads_27 : decode cX6_reads 27 = .ok (.iconst 0, 1) := by decide +kernel
theorem dX6_reads_28 : decode cX6_reads 28 = .ok (.istore_n 3, 1) := by decide +kernel
theorem dX6_reads_29 : decode cX6_reads 29 = .ok (.iload_n 3, 1) := by decide +kernel
theorem dX6_reads_30 : decode cX6_reads 30 = .ok (.aload_n 2, 1) := by decide +kernel
theorem dX6_reads_31 : decode cX6_reads 31 = .ok (.getfield 276, 3) := by decide +kernel
theorem dX6_reads_34 : decode cX6_reads 34 = .ok (.if_icmp .ge 47, 3) := by decide +kernel
theorem dX6_reads_37 : decode cX6_reads 37 = .ok (.aload_n 2, 1) := by decide +kernel
theorem dX6_reads_38 : decode cX6_reads 38 = .ok (.iload_n 3, 1) := by decide +kernel
theorem dX6_reads_39 : decode cX6_reads 39 = .ok (.invokevirtual 270, 3) := by decide +kernel
theorem dX6_reads_42 : decode cX6_reads 42 = .ok (.ifCond .eq 33, 3) := by decide +kernel
theorem dX6_reads_45 : decode cX6_reads 45 = .ok (.aload_n 0, 1) := by decide +kernel
theorem dX6_reads_46 : decode cX6_reads 46 = .ok (.getfield 46, 3) := by decide +kernel
theorem dX6_reads_49 : decode cX6_reads 49 = .ok (.iload_n 3, 1) := by decide +kernel
theorem dX6_reads_50 : decode cX6_reads 50 = .ok (.invokevirtual 76, 3) := by decide +kernel
theorem dX6_reads_53 : decode cX6_reads 53 = .ok (.ifCond .eq 20, 3) := by decide +kernel
theorem dX6_reads_56 : decode cX6_reads 56 = .ok (.aload_n 2, 1) := by decide +kernel
theorem dX6_reads_57 : decode cX6_reads 57 = .ok (.getfield 267, 3) := by decide +kernel
theorem dX6_reads_60 : decode cX6_reads 60 = .ok (.iload_n 3, 1) := by decide +kernel
theorem dX6_reads_61 : decode cX6_reads 61 = .ok (.iaload, 1) := by decide +kernel
theorem dX6_reads_62 : decode cX6_reads 62 = .ok (.aload_n 0, 1) := by decide +kernel
theorem dX6_reads_63 : decode cX6_reads 63 = .ok (.getfield 46, 3) := by decide +kernel
theorem dX6_reads_66 : decode cX6_reads 66 = .ok (.iload_n 3, 1) := by decide +kernel
theorem dX6_reads_67 : decode cX6_reads 67 = .ok (.invokevirtual 95, 3) := by decide +kernel
theorem dX6_reads_70 : decode cX6_reads 70 = .ok (.if_icmp .eq 5, 3) := by decide +kernel
theorem dX6_reads_73 : decode cX6_reads 73 = .ok (.iload_n 3, 1) := by decide +kernel
theorem dX6_reads_74 : decode cX6_reads 74 = .ok (.ireturn, 1) := by decide +kernel
theorem dX6_reads_75 : decode cX6_reads 75 = .ok (.iinc 3 1, 3) := by decide +kernel
theorem dX6_reads_78 : decode cX6_reads 78 = .ok (.goto (-49), 3) := by decide +kernel
theorem dX6_reads_81 : decode cX6_reads 81 = .ok (.ldc 189, 2) := by decide +kernel
theorem dX6_reads_83 : decode cX6_reads 83 = .ok (.ireturn, 1) := by decide +kernel
theorem dX6_copy_0 : decode cX6_copy 0 = .ok (.iload_n 1, 1) := by decide +kernel
theorem dX6_copy_1 : decode cX6_copy 1 = .ok (.invokestatic 203, 3) := by decide +kernel
theorem dX6_copy_4 : decode cX6_copy 4 = .ok (.ifCond .eq 10, 3) := by decide +kernel
theorem dX6_copy_7 : decode cX6_copy 7 = .ok (.iload_n 3, 1) := by decide +kernel
theorem dX6_copy_8 : decode cX6_copy 8 = .ok (.invokestatic 203, 3) := by decide +kernel
theorem dX6_copy_11 : decode cX6_copy 11 = .ok (.ifCond .ne 6, 3) := by decide +kernel
theorem dX6_copy_14 : decode cX6_copy 14 = .ok (.ldc 66, 2) := by decide +kernel
theorem dX6_copy_16 : decode cX6_copy 16 = .ok (.ireturn, 1) := by decide +kernel
theorem dX6_copy_17 : decode cX6_copy 17 = .ok (.aload_n 0, 1) := by decide +kernel
theorem dX6_copy_18 : decode cX6_copy 18 = .ok (.getfield 18, 3) := by decide +kernel
theorem dX6_copy_21 : decode cX6_copy 21 = .ok (.iload_n 1, 1) := by decide +kernel
theorem dX6_copy_22 : decode cX6_copy 22 = .ok (.aaload, 1) := by decide +kernel
theorem dX6_copy_23 : decode cX6_copy 23 = .ok (.astore 6, 2) := by decide +kernel
theorem dX6_copy_25 : decode cX6_copy 25 = .ok (.aload_n 0, 1) := by decide +kernel
theorem dX6_copy_26 : decode cX6_copy 26 = .ok (.getfield 18, 3) := by decide +kernel
theorem dX6_copy_29 : decode cX6_copy 29 = .ok (.iload_n 3, 1) := by decide +kernel
theorem dX6_copy_30 : decode cX6_copy 30 = .ok (.aaload, 1) := by decide +kernel
theorem dX6_copy_31 : decode cX6_copy 31 = .ok (.astore 7, 2) := by decide +kernel
theorem dX6_copy_33 : decode cX6_copy 33 = .ok (.aload 6, 2) := by decide +kernel
theorem dX6_copy_35 : decode cX6_copy 35 = .ok (.invokevirtual 206, 3) := by decide +kernel
theorem dX6_copy_38 : decode cX6_copy 38 = .ok (.ifCond .ne 11, 3) := by decide +kernel
theorem dX6_copy_41 : decode cX6_copy 41 = .ok (.aload 7, 2) := by decide +kernel
theorem dX6_copy_43 : decode cX6_copy 43 = .ok (.invokevirtual 206, 3) := by decide +kernel
theorem dX6_copy_46 : decode cX6_copy 46 = .ok (.ifCond .eq 6, 3) := by decide +kernel
theorem dX6_copy_49 : decode cX6_copy 49 = .ok (.ldc 210, 2) := by decide +kernel
theorem dX6_copy_51 : decode cX6_copy 51 = .ok (.ireturn, 1) := by decide +kernel
theorem dX6_copy_52 : decode cX6_copy 52 = .ok (.aload 6, 2) := by decide +kernel
theorem dX6_copy_54 : decode cX6_copy 54 = .ok (.getfield 262, 3) := by decide +kernel
theorem dX6_copy_57 : decode cX6_copy 57 = .ok (.aload 7, 2) := by decide +kernel
theorem dX6_copy_59 : decode cX6_copy 59 = .ok (.getfield 262, 3) := by decide +kernel
theorem dX6_copy_62 : decode cX6_copy 62 = .ok (.if_icmp .eq 6, 3) := by decide +kernel
theorem dX6_copy_65 : decode cX6_copy 65 = .ok (.ldc 118, 2) := by decide +kernel
theorem dX6_copy_67 : decode cX6_copy 67 = .ok (.ireturn, 1) := by decide +kernel
theorem dX6_copy_68 : decode cX6_copy 68 = .ok (.aload 6, 2) := by decide +kernel
theorem dX6_copy_70 : decode cX6_copy 70 = .ok (.iload_n 2, 1) := by decide +kernel
theorem dX6_copy_71 : decode cX6_copy 71 = .ok (.iload 5, 2) := by decide +kernel
theorem dX6_copy_73 : decode cX6_copy 73 = .ok (.invokevirtual 279, 3) := by decide +kernel
theorem dX6_copy_76 : decode cX6_copy 76 = .ok (.ifCond .eq 15, 3) := by decide +kernel
theorem dX6_copy_79 : decode cX6_copy 79 = .ok (.aload 7, 2) := by decide +kernel
theorem dX6_copy_81 : decode cX6_copy 81 = .ok (.iload 4, 2) := by decide +kernel
theorem dX6_copy_83 : decode cX6_copy 83 = .ok (.iload 5, 2) := by decide +kernel
theorem dX6_copy_85 : decode cX6_copy 85 = .ok (.invokevirtual 279, 3) := by decide +kernel
theorem dX6_copy_88 : decode cX6_copy 88 = .ok (.ifCond .ne 7, 3) := by decide +kernel
theorem dX6_copy_91 : decode cX6_copy 91 = .ok (.ldc_w 261, 3) := by decide +kernel
theorem dX6_copy_94 : decode cX6_copy 94 = .ok (.ireturn, 1) := by decide +kernel
theorem dX6_copy_95 : decode cX6_copy 95 = .ok (.aload 6, 2) := by decide +kernel
theorem dX6_copy_97 : decode cX6_copy 97 = .ok (.getfield 267, 3) := by decide +kernel
theorem dX6_copy_100 : decode cX6_copy 100 = .ok (.iload_n 2, 1) := by decide +kernel
theorem dX6_copy_101 : decode cX6_copy 101 = .ok (.aload 7, 2) := by decide +kernel
theorem dX6_copy_103 : decode cX6_copy 103 = .ok (.getfield 267, 3) := by decide +kernel
theorem dX6_copy_106 : decode cX6_copy 106 = .ok (.iload 4, 2) := by decide +kernel
theorem dX6_copy_108 : decode cX6_copy 108 = .ok (.iload 5, 2) := by decide +kernel
theorem dX6_copy_110 : decode cX6_copy 110 = .ok (.invokestatic 282, 3) := by decide +kernel
theorem dX6_copy_113 : decode cX6_copy 113 = .ok (.iload 5, 2) := by decide +kernel
theorem dX6_copy_115 : decode cX6_copy 115 = .ok (.ireturn, 1) := by decide +kernel
theorem dX6_lay_0 : decode cX6_lay 0 = .ok (.iload_n 1, 1) := by decide +kernel
theorem dX6_lay_1 : decode cX6_lay 1 = .ok (.invokestatic 288, 3) := by decide +kernel
theorem dX6_lay_4 : decode cX6_lay 4 = .ok (.ifCond .eq 40, 3) := by decide +kernel
theorem dX6_lay_7 : decode cX6_lay 7 = .ok (.iload_n 2, 1) := by decide +kernel
theorem dX6_lay_8 : decode cX6_lay 8 = .ok (.iconst 0, 1) := by decide +kernel
theorem dX6_lay_9 : decode cX6_lay 9 = .ok (.iconst 3, 1) := by decide +kernel
theorem dX6_lay_10 : decode cX6_lay 10 = .ok (.invokestatic 108, 3) := by decide +kernel
theorem dX6_lay_13 : decode cX6_lay 13 = .ok (.ifCond .eq 31, 3) := by decide +kernel
theorem dX6_lay_16 : decode cX6_lay 16 = .ok (.iload_n 2, 1) := by decide +kernel
theorem dX6_lay_17 : decode cX6_lay 17 = .ok (.iconst 1, 1) := by decide +kernel
theorem dX6_lay_18 : decode cX6_lay 18 = .ok (.if_icmp .ne 14, 3) := by decide +kernel
theorem dX6_lay_21 : decode cX6_lay 21 = .ok (.aload_n 0, 1) := by decide +kernel
theorem dX6_lay_22 : decode cX6_lay 22 = .ok (.getfield 46, 3) := by decide +kernel
theorem dX6_lay_25 : decode cX6_lay 25 = .ok (.iload_n 3, 1) := by decide +kernel
theorem dX6_lay_26 : decode cX6_lay 26 = .ok (.invokevirtual 76, 3) := by decide +kernel
theorem dX6_lay_29 : decode cX6_lay 29 = .ok (.ifCond .eq 15, 3) := by decide +kernel
theorem dX6_lay_32 : decode cX6_lay 32 = .ok (.iload_n 2, 1) := by decide +kernel
theorem dX6_lay_33 : decode cX6_lay 33 = .ok (.iconst 2, 1) := by decide +kernel
theorem dX6_lay_34 : decode cX6_lay 34 = .ok (.if_icmp .ne 13, 3) := by decide +kernel
theorem dX6_lay_37 : decode cX6_lay 37 = .ok (.iload_n 3, 1) := by decide +kernel
theorem dX6_lay_38 : decode cX6_lay 38 = .ok (.invokestatic 203, 3) := by decide +kernel
theorem dX6_lay_41 : decode cX6_lay 41 = .ok (.ifCond .ne 6, 3) := by decide +kernel
theorem dX6_lay_44 : decode cX6_lay 44 = .ok (.ldc 66, 2) := by decide +kernel
theorem dX6_lay_46 : decode cX6_lay 46 = .ok (.ireturn, 1) := by decide +kernel
theorem dX6_lay_47 : decode cX6_lay 47 = .ok (.iload_n 2, 1) := by decide +kernel
theorem dX6_lay_48 : decode cX6_lay 48 = .ok (.iconst 2, 1) := by decide +kernel
theorem dX6_lay_49 : decode cX6_lay 49 = .ok (.if_icmp .ne 18, 3) := by decide +kernel
theorem dX6_lay_52 : decode cX6_lay 52 = .ok (.aload_n 0, 1) := by decide +kernel
theorem dX6_lay_53 : decode cX6_lay 53 = .ok (.getfield 18, 3) := by decide +kernel
theorem dX6_lay_56 : decode cX6_lay 56 = .ok (.iload_n 3, 1) := by decide +kernel
theorem dX6_lay_57 : decode cX6_lay 57 = .ok (.aaload, 1) := by decide +kernel
theorem dX6_lay_58 : decode cX6_lay 58 = .ok (.invokevirtual 206, 3) := by decide +kernel
theorem dX6_lay_61 : decode cX6_lay 61 = .ok (.ifCond .eq 6, 3) := by decide +kernel
theorem dX6_lay_64 : decode cX6_lay 64 = .ok (.ldc 210, 2) := by decide +kernel
theorem dX6_lay_66 : decode cX6_lay 66 = .ok (.ireturn, 1) := by decide +kernel
theorem dX6_lay_67 : decode cX6_lay 67 = .ok (.aload_n 0, 1) := by decide +kernel
theorem dX6_lay_68 : decode cX6_lay 68 = .ok (.getfield 24, 3) := by decide +kernel
theorem dX6_lay_71 : decode cX6_lay 71 = .ok (.iload_n 1, 1) := by decide +kernel
theorem dX6_lay_72 : decode cX6_lay 72 = .ok (.aaload, 1) := by decide +kernel
theorem dX6_lay_73 : decode cX6_lay 73 = .ok (.astore 4, 2) := by decide +kernel
theorem dX6_lay_75 : decode cX6_lay 75 = .ok (.aload 4, 2) := by decide +kernel
theorem dX6_lay_77 : decode cX6_lay 77 = .ok (.getfield 291, 3) := by decide +kernel
theorem dX6_lay_80 : decode cX6_lay 80 = .ok (.istore 5, 2) := by decide +kernel
theorem dX6_lay_82 : decode cX6_lay 82 = .ok (.aload 4, 2) := by decide +kernel
theorem dX6_lay_84 : decode cX6_lay 84 = .ok (.iload_n 2, 1) := by decide +kernel
theorem dX6_lay_85 : decode cX6_lay 85 = .ok (.putfield 291, 3) := by decide +kernel
theorem dX6_lay_88 : decode cX6_lay 88 = .ok (.iload_n 2, 1) := by decide +kernel
theorem dX6_lay_89 : decode cX6_lay 89 = .ok (.iconst 1, 1) := by decide +kernel
theorem dX6_lay_90 : decode cX6_lay 90 = .ok (.if_icmp .ne 34, 3) := by decide +kernel
theorem dX6_lay_93 : decode cX6_lay 93 = .ok (.aload 4, 2) := by decide +kernel
theorem dX6_lay_95 : decode cX6_lay 95 = .ok (.aload_n 0, 1) := by decide +kernel
theorem dX6_lay_96 : decode cX6_lay 96 = .ok (.getfield 46, 3) := by decide +kernel
theorem dX6_lay_99 : decode cX6_lay 99 = .ok (.getfield 79, 3) := by decide +kernel
theorem dX6_lay_102 : decode cX6_lay 102 = .ok (.iload_n 3, 1) := by decide +kernel
theorem dX6_lay_103 : decode cX6_lay 103 = .ok (.iaload, 1) := by decide +kernel
theorem dX6_lay_104 : decode cX6_lay 104 = .ok (.putfield 294, 3) := by decide +kernel
theorem dX6_lay_107 : decode cX6_lay 107 = .ok (.aload 4, 2) := by decide +kernel
theorem dX6_lay_109 : decode cX6_lay 109 = .ok (.aload_n 0, 1) := by decide +kernel
theorem dX6_lay_110 : decode cX6_lay 110 = .ok (.getfield 46, 3) := by decide +kernel
theorem dX6_lay_113 : decode cX6_lay 113 = .ok (.getfield 85, 3) := by decide +kernel
theorem dX6_lay_116 : decode cX6_lay 116 = .ok (.iload_n 3, 1) := by decide +kernel
theorem dX6_lay_117 : decode cX6_lay 117 = .ok (.iaload, 1) := by decide +kernel
theorem dX6_lay_118 : decode cX6_lay 118 = .ok (.putfield 296, 3) := by decide +kernel
theorem dX6_lay_121 : decode cX6_lay 121 = .ok (.goto 31, 3) := by decide +kernel
theorem dX6_lay_124 : decode cX6_lay 124 = .ok (.iload_n 2, 1) := by decide +kernel
theorem dX6_lay_125 : decode cX6_lay 125 = .ok (.iconst 2, 1) := by decide +kernel
theorem dX6_lay_126 : decode cX6_lay 126 = .ok (.if_icmp .ne 20, 3) := by decide +kernel
theorem dX6_lay_129 : decode cX6_lay 129 = .ok (.aload 4, 2) := by decide +kernel
theorem dX6_lay_131 : decode cX6_lay 131 = .ok (.getfield 298, 3) := by decide +kernel
theorem dX6_lay_134 : decode cX6_lay 134 = .ok (.aload_n 0, 1) := by decide +kernel
theorem dX6_lay_135 : decode cX6_lay 135 = .ok (.getfield 18, 3) := by decide +kernel
theorem dX6_lay_138 : decode cX6_lay 138 = .ok (.iload_n 3, 1) := by decide +kernel
theorem dX6_lay_139 : decode cX6_lay 139 = .ok (.aaload, 1) := by decide +kernel
theorem dX6_lay_140 : decode cX6_lay 140 = .ok (.invokevirtual 302, 3) := by decide +kernel
theorem dX6_lay_143 : decode cX6_lay 143 = .ok (.goto 9, 3) := by decide +kernel
theorem dX6_lay_146 : decode cX6_lay 146 = .ok (.aload 4, 2) := by decide +kernel
theorem dX6_lay_148 : decode cX6_lay 148 = .ok (.iload_n 3, 1) := by decide +kernel
theorem dX6_lay_149 : decode cX6_lay 149 = .ok (.putfield 305, 3) := by decide +kernel
theorem dX6_lay_152 : decode cX6_lay 152 = .ok (.iload 5, 2) := by decide +kernel
theorem dX6_lay_154 : decode cX6_lay 154 = .ok (.ireturn, 1) := by decide +kernel
theorem dX6_ask_0 : decode cX6_ask 0 = .ok (.iload_n 1, 1) := by decide +kernel
theorem dX6_ask_1 : decode cX6_ask 1 = .ok (.invokestatic 288, 3) := by decide +kernel
theorem dX6_ask_4 : decode cX6_ask 4 = .ok (.ifCond .eq 10, 3) := by decide +kernel
theorem dX6_ask_7 : decode cX6_ask 7 = .ok (.iload_n 2, 1) := by decide +kernel
theorem dX6_ask_8 : decode cX6_ask 8 = .ok (.invokestatic 56, 3) := by decide +kernel
theorem dX6_ask_11 : decode cX6_ask 11 = .ok (.ifCond .ne 6, 3) := by decide +kernel
theorem dX6_ask_14 : decode cX6_ask 14 = .ok (.ldc 66, 2) := by decide +kernel
theorem dX6_ask_16 : decode cX6_ask 16 = .ok (.ireturn, 1) := by decide +kernel
theorem dX6_ask_17 : decode cX6_ask 17 = .ok (.aload_n 0, 1) := by decide +kernel
theorem dX6_ask_18 : decode cX6_ask 18 = .ok (.getfield 24, 3) := by decide +kernel
theorem dX6_ask_21 : decode cX6_ask 21 = .ok (.iload_n 1, 1) := by decide +kernel
theorem dX6_ask_22 : decode cX6_ask 22 = .ok (.aaload, 1) := by decide +kernel
theorem dX6_ask_23 : decode cX6_ask 23 = .ok (.astore_n 3, 1) := by decide +kernel
theorem dX6_ask_24 : decode cX6_ask 24 = .ok (.aload_n 3, 1) := by decide +kernel
theorem dX6_ask_25 : decode cX6_ask 25 = .ok (.getfield 291, 3) := by decide +kernel
theorem dX6_ask_28 : decode cX6_ask 28 = .ok (.ifCond .ne 6, 3) := by decide +kernel
theorem dX6_ask_31 : decode cX6_ask 31 = .ok (.ldc 210, 2) := by decide +kernel
theorem dX6_ask_33 : decode cX6_ask 33 = .ok (.ireturn, 1) := by decide +kernel
theorem dX6_ask_34 : decode cX6_ask 34 = .ok (.aload_n 3, 1) := by decide +kernel
theorem dX6_ask_35 : decode cX6_ask 35 = .ok (.getfield 291, 3) := by decide +kernel
theorem dX6_ask_38 : decode cX6_ask 38 = .ok (.iconst 1, 1) := by decide +kernel
theorem dX6_ask_39 : decode cX6_ask 39 = .ok (.if_icmp .ne 14, 3) := by decide +kernel
theorem dX6_ask_42 : decode cX6_ask 42 = .ok (.aload_n 3, 1) := by decide +kernel
theorem dX6_ask_43 : decode cX6_ask 43 = .ok (.getfield 294, 3) := by decide +kernel
theorem dX6_ask_46 : decode cX6_ask 46 = .ok (.iload_n 2, 1) := by decide +kernel
theorem dX6_ask_47 : decode cX6_ask 47 = .ok (.invokestatic 115, 3) := by decide +kernel
theorem dX6_ask_50 : decode cX6_ask 50 = .ok (.ifCond .ne 6, 3) := by decide +kernel
theorem dX6_ask_53 : decode cX6_ask 53 = .ok (.ldc 118, 2) := by decide +kernel
theorem dX6_ask_55 : decode cX6_ask 55 = .ok (.ireturn, 1) := by decide +kernel
theorem dX6_ask_56 : decode cX6_ask 56 = .ok (.aload_n 3, 1) := by decide +kernel
theorem dX6_ask_57 : decode cX6_ask 57 = .ok (.getfield 294, 3) := by decide +kernel
theorem dX6_ask_60 : decode cX6_ask 60 = .ok (.aload_n 3, 1) := by decide +kernel
theorem dX6_ask_61 : decode cX6_ask 61 = .ok (.getfield 296, 3) := by decide +kernel
theorem dX6_ask_64 : decode cX6_ask 64 = .ok (.invokestatic 102, 3) := by decide +kernel
theorem dX6_ask_67 : decode cX6_ask 67 = .ok (.ireturn, 1) := by decide +kernel
theorem dX6_item_0 : decode cX6_item 0 = .ok (.iload_n 1, 1) := by decide +kernel
theorem dX6_item_1 : decode cX6_item 1 = .ok (.invokestatic 288, 3) := by decide +kernel
theorem dX6_item_4 : decode cX6_item 4 = .ok (.ifCond .ne 6, 3) := by decide +kernel
theorem dX6_item_7 : decode cX6_item 7 = .ok (.ldc 66, 2) := by decide +kernel
theorem dX6_item_9 : decode cX6_item 9 = .ok (.ireturn, 1) := by decide +kernel
theorem dX6_item_10 : decode cX6_item 10 = .ok (.aload_n 0, 1) := by decide +kernel
theorem dX6_item_11 : decode cX6_item 11 = .ok (.getfield 24, 3) := by decide +kernel
theorem dX6_item_14 : decode cX6_item 14 = .ok (.iload_n 1, 1) := by decide +kernel
theorem dX6_item_15 : decode cX6_item 15 = .ok (.aaload, 1) := by decide +kernel
theorem dX6_item_16 : decode cX6_item 16 = .ok (.astore_n 3, 1) := by decide +kernel
theorem dX6_item_17 : decode cX6_item 17 = .ok (.aload_n 3, 1) := by decide +kernel
theorem dX6_item_18 : decode cX6_item 18 = .ok (.getfield 291, 3) := by decide +kernel
theorem dX6_item_21 : decode cX6_item 21 = .ok (.ifCond .ne 6, 3) := by decide +kernel
theorem dX6_item_24 : decode cX6_item 24 = .ok (.ldc 210, 2) := by decide +kernel
theorem dX6_item_26 : decode cX6_item 26 = .ok (.ireturn, 1) := by decide +kernel
theorem dX6_item_27 : decode cX6_item 27 = .ok (.aload_n 3, 1) := by decide +kernel
theorem dX6_item_28 : decode cX6_item 28 = .ok (.getfield 291, 3) := by decide +kernel
theorem dX6_item_31 : decode cX6_item 31 = .ok (.iconst 2, 1) := by decide +kernel
theorem dX6_item_32 : decode cX6_item 32 = .ok (.if_icmp .eq 6, 3) := by decide +kernel
theorem dX6_item_35 : decode cX6_item 35 = .ok (.ldc 118, 2) := by decide +kernel
theorem dX6_item_37 : decode cX6_item 37 = .ok (.ireturn, 1) := by decide +kernel
theorem dX6_item_38 : decode cX6_item 38 = .ok (.aload_n 3, 1) := by decide +kernel
theorem dX6_item_39 : decode cX6_item 39 = .ok (.getfield 298, 3) := by decide +kernel
theorem dX6_item_42 : decode cX6_item 42 = .ok (.iload_n 2, 1) := by decide +kernel
theorem dX6_item_43 : decode cX6_item 43 = .ok (.invokevirtual 258, 3) := by decide +kernel
theorem dX6_item_46 : decode cX6_item 46 = .ok (.ifCond .ne 7, 3) := by decide +kernel
theorem dX6_item_49 : decode cX6_item 49 = .ok (.ldc_w 261, 3) := by decide +kernel
theorem dX6_item_52 : decode cX6_item 52 = .ok (.ireturn, 1) := by decide +kernel
theorem dX6_item_53 : decode cX6_item 53 = .ok (.aload_n 3, 1) := by decide +kernel
theorem dX6_item_54 : decode cX6_item 54 = .ok (.getfield 298, 3) := by decide +kernel
theorem dX6_item_57 : decode cX6_item 57 = .ok (.iload_n 2, 1) := by decide +kernel
theorem dX6_item_58 : decode cX6_item 58 = .ok (.invokevirtual 270, 3) := by decide +kernel
theorem dX6_item_61 : decode cX6_item 61 = .ok (.ifCond .eq 15, 3) := by decide +kernel
theorem dX6_item_64 : decode cX6_item 64 = .ok (.aload_n 3, 1) := by decide +kernel
theorem dX6_item_65 : decode cX6_item 65 = .ok (.getfield 298, 3) := by decide +kernel
theorem dX6_item_68 : decode cX6_item 68 = .ok (.getfield 267, 3) := by decide +kernel
theorem dX6_item_71 : decode cX6_item 71 = .ok (.iload_n 2, 1) := by decide +kernel
theorem dX6_item_72 : decode cX6_item 72 = .ok (.iaload, 1) := by decide +kernel
theorem dX6_item_73 : decode cX6_item 73 = .ok (.goto 5, 3) := by decide +kernel
theorem dX6_item_76 : decode cX6_item 76 = .ok (.ldc 118, 2) := by decide +kernel
theorem dX6_item_78 : decode cX6_item 78 = .ok (.ireturn, 1) := by decide +kernel
theorem dX6_rest_0 : decode cX6_rest 0 = .ok (.iload_n 1, 1) := by decide +kernel
theorem dX6_rest_1 : decode cX6_rest 1 = .ok (.invokestatic 288, 3) := by decide +kernel
theorem dX6_rest_4 : decode cX6_rest 4 = .ok (.ifCond .ne 6, 3) := by decide +kernel
theorem dX6_rest_7 : decode cX6_rest 7 = .ok (.ldc 66, 2) := by decide +kernel
theorem dX6_rest_9 : decode cX6_rest 9 = .ok (.ireturn, 1) := by decide +kernel
theorem dX6_rest_10 : decode cX6_rest 10 = .ok (.aload_n 0, 1) := by decide +kernel
theorem dX6_rest_11 : decode cX6_rest 11 = .ok (.getfield 24, 3) := by decide +kernel
theorem dX6_rest_14 : decode cX6_rest 14 = .ok (.iload_n 1, 1) := by decide +kernel
theorem dX6_rest_15 : decode cX6_rest 15 = .ok (.aaload, 1) := by decide +kernel
theorem dX6_rest_16 : decode cX6_rest 16 = .ok (.astore_n 3, 1) := by decide +kernel
theorem dX6_rest_17 : decode cX6_rest 17 = .ok (.aload_n 3, 1) := by decide +kernel
theorem dX6_rest_18 : decode cX6_rest 18 = .ok (.getfield 291, 3) := by decide +kernel
theorem dX6_rest_21 : decode cX6_rest 21 = .ok (.ifCond .ne 6, 3) := by decide +kernel
theorem dX6_rest_24 : decode cX6_rest 24 = .ok (.ldc 210, 2) := by decide +kernel
theorem dX6_rest_26 : decode cX6_rest 26 = .ok (.ireturn, 1) := by decide +kernel
theorem dX6_rest_27 : decode cX6_rest 27 = .ok (.aload_n 3, 1) := by decide +kernel
theorem dX6_rest_28 : decode cX6_rest 28 = .ok (.getfield 291, 3) := by decide +kernel
theorem dX6_rest_31 : decode cX6_rest 31 = .ok (.iconst 3, 1) := by decide +kernel
theorem dX6_rest_32 : decode cX6_rest 32 = .ok (.if_icmp .eq 6, 3) := by decide +kernel
theorem dX6_rest_35 : decode cX6_rest 35 = .ok (.ldc 118, 2) := by decide +kernel
theorem dX6_rest_37 : decode cX6_rest 37 = .ok (.ireturn, 1) := by decide +kernel
theorem dX6_rest_38 : decode cX6_rest 38 = .ok (.iload_n 2, 1) := by decide +kernel
theorem dX6_rest_39 : decode cX6_rest 39 = .ok (.ifCond .ne 9, 3) := by decide +kernel
theorem dX6_rest_42 : decode cX6_rest 42 = .ok (.ldc_w 308, 3) := by decide +kernel
theorem dX6_rest_45 : decode cX6_rest 45 = .ok (.goto 9, 3) := by decide +kernel
theorem dX6_rest_48 : decode cX6_rest 48 = .ok (.aload_n 3, 1) := by decide +kernel
theorem dX6_rest_49 : decode cX6_rest 49 = .ok (.getfield 305, 3) := by decide +kernel
theorem dX6_rest_52 : decode cX6_rest 52 = .ok (.iload_n 2, 1) := by decide +kernel
theorem dX6_rest_53 : decode cX6_rest 53 = .ok (.irem, 1) := by decide +kernel
theorem dX6_rest_54 : decode cX6_rest 54 = .ok (.ireturn, 1) := by decide +kernel
theorem dX6_tell_0 : decode cX6_tell 0 = .ok (.aload_n 0, 1) := by decide +kernel
theorem dX6_tell_1 : decode cX6_tell 1 = .ok (.getfield 309, 3) := by decide +kernel
theorem dX6_tell_4 : decode cX6_tell 4 = .ok (.bipush 60, 2) := by decide +kernel
theorem dX6_tell_6 : decode cX6_tell 6 = .ok (.if_icmp .lt 6, 3) := by decide +kernel
theorem dX6_tell_9 : decode cX6_tell 9 = .ok (.ldc 75, 2) := by decide +kernel
theorem dX6_tell_11 : decode cX6_tell 11 = .ok (.ireturn, 1) := by decide +kernel
theorem dX6_tell_12 : decode cX6_tell 12 = .ok (.aload_n 0, 1) := by decide +kernel
theorem dX6_tell_13 : decode cX6_tell 13 = .ok (.getfield 28, 3) := by decide +kernel
theorem dX6_tell_16 : decode cX6_tell 16 = .ok (.aload_n 0, 1) := by decide +kernel
theorem dX6_tell_17 : decode cX6_tell 17 = .ok (.getfield 309, 3) := by decide +kernel
theorem dX6_tell_20 : decode cX6_tell 20 = .ok (.iload_n 1, 1) := by decide +kernel
theorem dX6_tell_21 : decode cX6_tell 21 = .ok (.iastore, 1) := by decide +kernel
theorem dX6_tell_22 : decode cX6_tell 22 = .ok (.aload_n 0, 1) := by decide +kernel
theorem dX6_tell_23 : decode cX6_tell 23 = .ok (.dup, 1) := by decide +kernel
theorem dX6_tell_24 : decode cX6_tell 24 = .ok (.getfield 309, 3) := by decide +kernel
theorem dX6_tell_27 : decode cX6_tell 27 = .ok (.iconst 1, 1) := by decide +kernel
theorem dX6_tell_28 : decode cX6_tell 28 = .ok (.iadd, 1) := by decide +kernel
theorem dX6_tell_29 : decode cX6_tell 29 = .ok (.putfield 309, 3) := by decide +kernel
theorem dX6_tell_32 : decode cX6_tell 32 = .ok (.aload_n 0, 1) := by decide +kernel
theorem dX6_tell_33 : decode cX6_tell 33 = .ok (.getfield 309, 3) := by decide +kernel
theorem dX6_tell_36 : decode cX6_tell 36 = .ok (.ireturn, 1) := by decide +kernel
theorem dX6_check_0 : decode cX6_check 0 = .ok (.aload_n 0, 1) := by decide +kernel
theorem dX6_check_1 : decode cX6_check 1 = .ok (.getfield 309, 3) := by decide +kernel
theorem dX6_check_4 : decode cX6_check 4 = .ok (.istore_n 2, 1) := by decide +kernel
theorem dX6_check_5 : decode cX6_check 5 = .ok (.aload_n 0, 1) := by decide +kernel
theorem dX6_check_6 : decode cX6_check 6 = .ok (.iconst 0, 1) := by decide +kernel
theorem dX6_check_7 : decode cX6_check 7 = .ok (.putfield 309, 3) := by decide +kernel
theorem dX6_check_10 : decode cX6_check 10 = .ok (.iload_n 1, 1) := by decide +kernel
theorem dX6_check_11 : decode cX6_check 11 = .ok (.iconst 1, 1) := by decide +kernel
theorem dX6_check_12 : decode cX6_check 12 = .ok (.bipush 30, 2) := by decide +kernel
theorem dX6_check_14 : decode cX6_check 14 = .ok (.invokestatic 108, 3) := by decide +kernel
theorem dX6_check_17 : decode cX6_check 17 = .ok (.ifCond .ne 6, 3) := by decide +kernel
theorem dX6_check_20 : decode cX6_check 20 = .ok (.ldc 66, 2) := by decide +kernel
theorem dX6_check_22 : decode cX6_check 22 = .ok (.ireturn, 1) := by decide +kernel
theorem dX6_check_23 : decode cX6_check 23 = .ok (.aload_n 0, 1) := by decide +kernel
theorem dX6_check_24 : decode cX6_check 24 = .ok (.getfield 312, 3) := by decide +kernel
theorem dX6_check_27 : decode cX6_check 27 = .ok (.ifCond .ne 7, 3) := by decide +kernel
theorem dX6_check_30 : decode cX6_check 30 = .ok (.ldc_w 308, 3) := by decide +kernel
theorem dX6_check_33 : decode cX6_check 33 = .ok (.ireturn, 1) := by decide +kernel
theorem dX6_check_34 : decode cX6_check 34 = .ok (.iload_n 1, 1) := by decide +kernel
theorem dX6_check_35 : decode cX6_check 35 = .ok (.sipush 9999, 3) := by decide +kernel
theorem dX6_check_38 : decode cX6_check 38 = .ok (.aload_n 0, 1) := by decide +kernel
theorem dX6_check_39 : decode cX6_check 39 = .ok (.getfield 50, 3) := by decide +kernel
theorem dX6_check_42 : decode cX6_check 42 = .ok (.getfield 167, 3) := by decide +kernel
theorem dX6_check_45 : decode cX6_check 45 = .ok (.isub, 1) := by decide +kernel
theorem dX6_check_46 : decode cX6_check 46 = .ok (.invokestatic 153, 3) := by decide +kernel
theorem dX6_check_49 : decode cX6_check 49 = .ok (.istore_n 3, 1) := by decide +kernel
theorem dX6_check_50 : decode cX6_check 50 = .ok (.aload_n 0, 1) := by decide +kernel
theorem dX6_check_51 : decode cX6_check 51 = .ok (.getfield 53, 3) := by decide +kernel
theorem dX6_check_54 : decode cX6_check 54 = .ok (.aload_n 0, 1) := by decide +kernel
theorem dX6_check_55 : decode cX6_check 55 = .ok (.getfield 50, 3) := by decide +kernel
theorem dX6_check_58 : decode cX6_check 58 = .ok (.invokevirtual 316, 3) := by decide +kernel
theorem dX6_check_61 : decode cX6_check 61 = .ok (.iconst 0, 1) := by decide +kernel
theorem dX6_check_62 : decode cX6_check 62 = .ok (.istore 4, 2) := by decide +kernel
theorem dX6_check_64 : decode cX6_check 64 = .ok (.iload 4, 2) := by decide +kernel
theorem dX6_check_66 : decode cX6_check 66 = .ok (.iload_n 3, 1) := by decide +kernel
theorem dX6_check_67 : decode cX6_check 67 = .ok (.if_icmp .ge 70, 3) := by decide +kernel
theorem dX6_check_70 : decode cX6_check 70 = .ok (.aload_n 0, 1) := by decide +kernel
theorem dX6_check_71 : decode cX6_check 71 = .ok (.getfield 53, 3) := by decide +kernel
theorem dX6_check_74 : decode cX6_check 74 = .ok (.invokevirtual 186, 3) := by decide +kernel
theorem dX6_check_77 : decode cX6_check 77 = .ok (.aload_n 0, 1) := by decide +kernel
theorem dX6_check_78 : decode cX6_check 78 = .ok (.iconst 2, 1) := by decide +kernel
theorem dX6_check_79 : decode cX6_check 79 = .ok (.iload 4, 2) := by decide +kernel
theorem dX6_check_81 : decode cX6_check 81 = .ok (.imul, 1) := by decide +kernel
theorem dX6_check_82 : decode cX6_check 82 = .ok (.iload_n 2, 1) := by decide +kernel
theorem dX6_check_83 : decode cX6_check 83 = .ok (.aload_n 0, 1) := by decide +kernel
theorem dX6_check_84 : decode cX6_check 84 = .ok (.getfield 53, 3) := by decide +kernel
theorem dX6_check_87 : decode cX6_check 87 = .ok (.invokevirtual 173, 3) := by decide +kernel
theorem dX6_check_90 : decode cX6_check 90 = .ok (.invokevirtual 319, 3) := by decide +kernel
theorem dX6_check_93 : decode cX6_check 93 = .ok (.ifCond .ne 10, 3) := by decide +kernel
theorem dX6_check_96 : decode cX6_check 96 = .ok (.iconst 1, 1) := by decide +kernel
theorem dX6_check_97 : decode cX6_check 97 = .ok (.iconst 2, 1) := by decide +kernel
theorem dX6_check_98 : decode cX6_check 98 = .ok (.iload 4, 2) := by decide +kernel
theorem dX6_check_100 : decode cX6_check 100 = .ok (.imul, 1) := by decide +kernel
theorem dX6_check_101 : decode cX6_check 101 = .ok (.iadd, 1) := by decide +kernel
theorem dX6_check_102 : decode cX6_check 102 = .ok (.ireturn, 1) := by decide +kernel
theorem dX6_check_103 : decode cX6_check 103 = .ok (.aload_n 0, 1) := by decide +kernel
theorem dX6_check_104 : decode cX6_check 104 = .ok (.iconst 2, 1) := by decide +kernel
theorem dX6_check_105 : decode cX6_check 105 = .ok (.iload 4, 2) := by decide +kernel
theorem dX6_check_107 : decode cX6_check 107 = .ok (.imul, 1) := by decide +kernel
theorem dX6_check_108 : decode cX6_check 108 = .ok (.iconst 1, 1) := by decide +kernel
theorem dX6_check_109 : decode cX6_check 109 = .ok (.iadd, 1) := by decide +kernel
theorem dX6_check_110 : decode cX6_check 110 = .ok (.iload_n 2, 1) := by decide +kernel
theorem dX6_check_111 : decode cX6_check 111 = .ok (.aload_n 0, 1) := by decide +kernel
theorem dX6_check_112 : decode cX6_check 112 = .ok (.getfield 53, 3) := by decide +kernel
theorem dX6_check_115 : decode cX6_check 115 = .ok (.getfield 164, 3) := by decide +kernel
theorem dX6_check_118 : decode cX6_check 118 = .ok (.invokevirtual 319, 3) := by decide +kernel
theorem dX6_check_121 : decode cX6_check 121 = .ok (.ifCond .ne 10, 3) := by decide +kernel
theorem dX6_check_124 : decode cX6_check 124 = .ok (.iconst 2, 1) := by decide +kernel
theorem dX6_check_125 : decode cX6_check 125 = .ok (.iconst 2, 1) := by decide +kernel
theorem dX6_check_126 : decode cX6_check 126 = .ok (.iload 4, 2) := by decide +kernel
theorem dX6_check_128 : decode cX6_check 128 = .ok (.imul, 1) := by decide +kernel
theorem dX6_check_129 : decode cX6_check 129 = .ok (.iadd, 1) := by decide +kernel
theorem dX6_check_130 : decode cX6_check 130 = .ok (.ireturn, 1) := by decide +kernel
theorem dX6_check_131 : decode cX6_check 131 = .ok (.iinc 4 1, 3) := by decide +kernel
theorem dX6_check_134 : decode cX6_check 134 = .ok (.goto (-70), 3) := by decide +kernel
theorem dX6_check_137 : decode cX6_check 137 = .ok (.iload_n 2, 1) := by decide +kernel
theorem dX6_check_138 : decode cX6_check 138 = .ok (.iconst 2, 1) := by decide +kernel
theorem dX6_check_139 : decode cX6_check 139 = .ok (.iload_n 3, 1) := by decide +kernel
theorem dX6_check_140 : decode cX6_check 140 = .ok (.imul, 1) := by decide +kernel
theorem dX6_check_141 : decode cX6_check 141 = .ok (.if_icmp .le 11, 3) := by decide +kernel
theorem dX6_check_144 : decode cX6_check 144 = .ok (.iconst 1, 1) := by decide +kernel
theorem dX6_check_145 : decode cX6_check 145 = .ok (.iconst 2, 1) := by decide +kernel
theorem dX6_check_146 : decode cX6_check 146 = .ok (.iload_n 3, 1) := by decide +kernel
theorem dX6_check_147 : decode cX6_check 147 = .ok (.imul, 1) := by decide +kernel
theorem dX6_check_148 : decode cX6_check 148 = .ok (.iadd, 1) := by decide +kernel
theorem dX6_check_149 : decode cX6_check 149 = .ok (.goto 4, 3) := by decide +kernel
theorem dX6_check_152 : decode cX6_check 152 = .ok (.iconst 0, 1) := by decide +kernel
theorem dX6_check_153 : decode cX6_check 153 = .ok (.ireturn, 1) := by decide +kernel
theorem dX6_keep_0 : decode cX6_keep 0 = .ok (.aload_n 0, 1) := by decide +kernel
theorem dX6_keep_1 : decode cX6_keep 1 = .ok (.getfield 50, 3) := by decide +kernel
theorem dX6_keep_4 : decode cX6_keep 4 = .ok (.aload_n 0, 1) := by decide +kernel
theorem dX6_keep_5 : decode cX6_keep 5 = .ok (.getfield 46, 3) := by decide +kernel
theorem dX6_keep_8 : decode cX6_keep 8 = .ok (.invokevirtual 316, 3) := by decide +kernel
theorem dX6_keep_11 : decode cX6_keep 11 = .ok (.aload_n 0, 1) := by decide +kernel
theorem dX6_keep_12 : decode cX6_keep 12 = .ok (.iconst 1, 1) := by decide +kernel
theorem dX6_keep_13 : decode cX6_keep 13 = .ok (.putfield 312, 3) := by decide +kernel
theorem dX6_keep_16 : decode cX6_keep 16 = .ok (.aload_n 0, 1) := by decide +kernel
theorem dX6_keep_17 : decode cX6_keep 17 = .ok (.getfield 46, 3) := by decide +kernel
theorem dX6_keep_20 : decode cX6_keep 20 = .ok (.getfield 67, 3) := by decide +kernel
theorem dX6_keep_23 : decode cX6_keep 23 = .ok (.ireturn, 1) := by decide +kernel
theorem dX6_back_0 : decode cX6_back 0 = .ok (.aload_n 0, 1) := by decide +kernel
theorem dX6_back_1 : decode cX6_back 1 = .ok (.getfield 312, 3) := by decide +kernel
theorem dX6_back_4 : decode cX6_back 4 = .ok (.ifCond .ne 7, 3) := by decide +kernel
theorem dX6_back_7 : decode cX6_back 7 = .ok (.ldc_w 308, 3) := by decide +kernel
theorem dX6_back_10 : decode cX6_back 10 = .ok (.ireturn, 1) := by decide +kernel
theorem dX6_back_11 : decode cX6_back 11 = .ok (.aload_n 0, 1) := by decide +kernel
theorem dX6_back_12 : decode cX6_back 12 = .ok (.getfield 46, 3) := by decide +kernel
theorem dX6_back_15 : decode cX6_back 15 = .ok (.aload_n 0, 1) := by decide +kernel
theorem dX6_back_16 : decode cX6_back 16 = .ok (.getfield 50, 3) := by decide +kernel
theorem dX6_back_19 : decode cX6_back 19 = .ok (.invokevirtual 316, 3) := by decide +kernel
theorem dX6_back_22 : decode cX6_back 22 = .ok (.aload_n 0, 1) := by decide +kernel
theorem dX6_back_23 : decode cX6_back 23 = .ok (.getfield 46, 3) := by decide +kernel
theorem dX6_back_26 : decode cX6_back 26 = .ok (.getfield 67, 3) := by decide +kernel
theorem dX6_back_29 : decode cX6_back 29 = .ok (.ireturn, 1) := by decide +kernel
theorem dX6_count_0 : decode cX6_count 0 = .ok (.iload_n 1, 1) := by decide +kernel
theorem dX6_count_1 : decode cX6_count 1 = .ok (.tableswitch 120 0 8 #[51, 59, 67, 75, 83, 91, 99, 104, 112], 51) := by decide +kernel
theorem dX6_count_52 : decode cX6_count 52 = .ok (.aload_n 0, 1) := by decide +kernel
theorem dX6_count_53 : decode cX6_count 53 = .ok (.getfield 46, 3) := by decide +kernel
theorem dX6_count_56 : decode cX6_count 56 = .ok (.getfield 67, 3) := by decide +kernel
theorem dX6_count_59 : decode cX6_count 59 = .ok (.ireturn, 1) := by decide +kernel
theorem dX6_count_60 : decode cX6_count 60 = .ok (.aload_n 0, 1) := by decide +kernel
theorem dX6_count_61 : decode cX6_count 61 = .ok (.getfield 46, 3) := by decide +kernel
theorem dX6_count_64 : decode cX6_count 64 = .ok (.getfield 126, 3) := by decide +kernel
theorem dX6_count_67 : decode cX6_count 67 = .ok (.ireturn, 1) := by decide +kernel
theorem dX6_count_68 : decode cX6_count 68 = .ok (.aload_n 0, 1) := by decide +kernel
theorem dX6_count_69 : decode cX6_count 69 = .ok (.getfield 46, 3) := by decide +kernel
theorem dX6_count_72 : decode cX6_count 72 = .ok (.getfield 167, 3) := by decide +kernel
theorem dX6_count_75 : decode cX6_count 75 = .ok (.ireturn, 1) := by decide +kernel
theorem dX6_count_76 : decode cX6_count 76 = .ok (.aload_n 0, 1) := by decide +kernel
theorem dX6_count_77 : decode cX6_count 77 = .ok (.getfield 46, 3) := by decide +kernel
theorem dX6_count_80 : decode cX6_count 80 = .ok (.getfield 150, 3) := by decide +kernel
theorem dX6_count_83 : decode cX6_count 83 = .ok (.ireturn, 1) := by decide +kernel
theorem dX6_count_84 : decode cX6_count 84 = .ok (.aload_n 0, 1) := by decide +kernel
theorem dX6_count_85 : decode cX6_count 85 = .ok (.getfield 46, 3) := by decide +kernel
theorem dX6_count_88 : decode cX6_count 88 = .ok (.invokevirtual 322, 3) := by decide +kernel
theorem dX6_count_91 : decode cX6_count 91 = .ok (.ireturn, 1) := by decide +kernel
theorem dX6_count_92 : decode cX6_count 92 = .ok (.aload_n 0, 1) := by decide +kernel
theorem dX6_count_93 : decode cX6_count 93 = .ok (.getfield 46, 3) := by decide +kernel
theorem dX6_count_96 : decode cX6_count 96 = .ok (.getfield 234, 3) := by decide +kernel
theorem dX6_count_99 : decode cX6_count 99 = .ok (.ireturn, 1) := by decide +kernel
theorem dX6_count_100 : decode cX6_count 100 = .ok (.aload_n 0, 1) := by decide +kernel
theorem dX6_count_101 : decode cX6_count 101 = .ok (.getfield 309, 3) := by decide +kernel
theorem dX6_count_104 : decode cX6_count 104 = .ok (.ireturn, 1) := by decide +kernel
theorem dX6_count_105 : decode cX6_count 105 = .ok (.aload_n 0, 1) := by decide +kernel
theorem dX6_count_106 : decode cX6_count 106 = .ok (.getfield 10, 3) := by decide +kernel
theorem dX6_count_109 : decode cX6_count 109 = .ok (.getfield 225, 3) := by decide +kernel
theorem dX6_count_112 : decode cX6_count 112 = .ok (.ireturn, 1) := by decide +kernel
theorem dX6_count_113 : decode cX6_count 113 = .ok (.aload_n 0, 1) := by decide +kernel
theorem dX6_count_114 : decode cX6_count 114 = .ok (.getfield 46, 3) := by decide +kernel
theorem dX6_count_117 : decode cX6_count 117 = .ok (.getfield 161, 3) := by decide +kernel
theorem dX6_count_120 : decode cX6_count 120 = .ok (.ireturn, 1) := by decide +kernel
theorem dX6_count_121 : decode cX6_count 121 = .ok (.ldc 66, 2) := by decide +kernel
theorem dX6_count_123 : decode cX6_count 123 = .ok (.ireturn, 1) := by decide +kernel
theorem dX6_within_0 : decode cX6_within 0 = .ok (.iload_n 0, 1) := by decide +kernel
theorem dX6_within_1 : decode cX6_within 1 = .ok (.iload_n 1, 1) := by decide +kernel
theorem dX6_within_2 : decode cX6_within 2 = .ok (.if_icmp .lt 12, 3) := by decide +kernel
theorem dX6_within_5 : decode cX6_within 5 = .ok (.iload_n 0, 1) := by decide +kernel
theorem dX6_within_6 : decode cX6_within 6 = .ok (.iload_n 2, 1) := by decide +kernel
theorem dX6_within_7 : decode cX6_within 7 = .ok (.if_icmp .gt 7, 3) := by decide +kernel
theorem dX6_within_10 : decode cX6_within 10 = .ok (.iconst 1, 1) := by decide +kernel
theorem dX6_within_11 : decode cX6_within 11 = .ok (.goto 4, 3) := by decide +kernel
theorem dX6_within_14 : decode cX6_within 14 = .ok (.iconst 0, 1) := by decide +kernel
theorem dX6_within_15 : decode cX6_within 15 = .ok (.ireturn, 1) := by decide +kernel
theorem dX6_fitsCellar_0 : decode cX6_fitsCellar 0 = .ok (.iload_n 0, 1) := by decide +kernel
theorem dX6_fitsCellar_1 : decode cX6_fitsCellar 1 = .ok (.tableswitch 80 1 10 #[55, 63, 80, 80, 80, 80, 80, 71, 71, 71], 55) := by decide +kernel
theorem dX6_fitsCellar_56 : decode cX6_fitsCellar 56 = .ok (.iload_n 1, 1) := by decide +kernel
theorem dX6_fitsCellar_57 : decode cX6_fitsCellar 57 = .ok (.iconst 0, 1) := by decide +kernel
theorem dX6_fitsCellar_58 : decode cX6_fitsCellar 58 = .ok (.bipush 99, 2) := by decide +kernel
theorem dX6_fitsCellar_60 : decode cX6_fitsCellar 60 = .ok (.invokestatic 108, 3) := by decide +kernel
theorem dX6_fitsCellar_63 : decode cX6_fitsCellar 63 = .ok (.ireturn, 1) := by decide +kernel
theorem dX6_fitsCellar_64 : decode cX6_fitsCellar 64 = .ok (.iload_n 1, 1) := by decide +kernel
theorem dX6_fitsCellar_65 : decode cX6_fitsCellar 65 = .ok (.iconst 1, 1) := by decide +kernel
theorem dX6_fitsCellar_66 : decode cX6_fitsCellar 66 = .ok (.bipush 99, 2) := by decide +kernel
theorem dX6_fitsCellar_68 : decode cX6_fitsCellar 68 = .ok (.invokestatic 108, 3) := by decide +kernel
theorem dX6_fitsCellar_71 : decode cX6_fitsCellar 71 = .ok (.ireturn, 1) := by decide +kernel
theorem dX6_fitsCellar_72 : decode cX6_fitsCellar 72 = .ok (.iload_n 1, 1) := by decide +kernel
theorem dX6_fitsCellar_73 : decode cX6_fitsCellar 73 = .ok (.iconst 0, 1) := by decide +kernel
theorem dX6_fitsCellar_74 : decode cX6_fitsCellar 74 = .ok (.sipush 999, 3) := by decide +kernel
theorem dX6_fitsCellar_77 : decode cX6_fitsCellar 77 = .ok (.invokestatic 108, 3) := by decide +kernel
theorem dX6_fitsCellar_80 : decode cX6_fitsCellar 80 = .ok (.ireturn, 1) := by decide +kernel
theorem dX6_fitsCellar_81 : decode cX6_fitsCellar 81 = .ok (.iconst 0, 1) := by decide +kernel
theorem dX6_fitsCellar_82 : decode cX6_fitsCellar 82 = .ok (.ireturn, 1) := by decide +kernel
theorem dX6_isSheet_0 : decode cX6_isSheet 0 = .ok (.iload_n 0, 1) := by decide +kernel
theorem dX6_isSheet_1 : decode cX6_isSheet 1 = .ok (.iconst 0, 1) := by decide +kernel
theorem dX6_isSheet_2 : decode cX6_isSheet 2 = .ok (.iconst 3, 1) := by decide +kernel
theorem dX6_isSheet_3 : decode cX6_isSheet 3 = .ok (.invokestatic 108, 3) := by decide +kernel
theorem dX6_isSheet_6 : decode cX6_isSheet 6 = .ok (.ireturn, 1) := by decide +kernel
theorem dX6_isSlot_0 : decode cX6_isSlot 0 = .ok (.iload_n 0, 1) := by decide +kernel
theorem dX6_isSlot_1 : decode cX6_isSlot 1 = .ok (.iconst 0, 1) := by decide +kernel
theorem dX6_isSlot_2 : decode cX6_isSlot 2 = .ok (.iconst 4, 1) := by decide +kernel
theorem dX6_isSlot_3 : decode cX6_isSlot 3 = .ok (.invokestatic 108, 3) := by decide +kernel
theorem dX6_isSlot_6 : decode cX6_isSlot 6 = .ok (.ireturn, 1) := by decide +kernel
theorem dX6_waits_0 : decode cX6_waits 0 = .ok (.iload_n 1, 1) := by decide +kernel
theorem dX6_waits_1 : decode cX6_waits 1 = .ok (.iload_n 2, 1) := by decide +kernel
theorem dX6_waits_2 : decode cX6_waits 2 = .ok (.if_icmp .ge 17, 3) := by decide +kernel
theorem dX6_waits_5 : decode cX6_waits 5 = .ok (.aload_n 0, 1) := by decide +kernel
theorem dX6_waits_6 : decode cX6_waits 6 = .ok (.getfield 28, 3) := by decide +kernel
theorem dX6_waits_9 : decode cX6_waits 9 = .ok (.iload_n 1, 1) := by decide +kernel
theorem dX6_waits_10 : decode cX6_waits 10 = .ok (.iaload, 1) := by decide +kernel
theorem dX6_waits_11 : decode cX6_waits 11 = .ok (.iload_n 3, 1) := by decide +kernel
theorem dX6_waits_12 : decode cX6_waits 12 = .ok (.if_icmp .ne 7, 3) := by decide +kernel
theorem dX6_waits_15 : decode cX6_waits 15 = .ok (.iconst 1, 1) := by decide +kernel
theorem dX6_waits_16 : decode cX6_waits 16 = .ok (.goto 4, 3) := by decide +kernel
theorem dX6_waits_19 : decode cX6_waits 19 = .ok (.iconst 0, 1) := by decide +kernel
theorem dX6_waits_20 : decode cX6_waits 20 = .ok (.ireturn, 1) := by decide +kernel
theorem dX6_thinkFromNow_0 : decode cX6_thinkFromNow 0 = .ok (.aload_n 0, 1) := by decide +kernel
theorem dX6_thinkFromNow_1 : decode cX6_thinkFromNow 1 = .ok (.getfield 53, 3) := by decide +kernel
theorem dX6_thinkFromNow_4 : decode cX6_thinkFromNow 4 = .ok (.aload_n 0, 1) := by decide +kernel
theorem dX6_thinkFromNow_5 : decode cX6_thinkFromNow 5 = .ok (.getfield 46, 3) := by decide +kernel
theorem dX6_thinkFromNow_8 : decode cX6_thinkFromNow 8 = .ok (.invokevirtual 316, 3) := by decide +kernel
theorem dX6_thinkFromNow_11 : decode cX6_thinkFromNow 11 = .ok (.return_, 1) := by decide +kernel
theorem dX6_thinkWithCork_0 : decode cX6_thinkWithCork 0 = .ok (.aload_n 0, 1) := by decide +kernel
theorem dX6_thinkWithCork_1 : decode cX6_thinkWithCork 1 = .ok (.getfield 53, 3) := by decide +kernel
theorem dX6_thinkWithCork_4 : decode cX6_thinkWithCork 4 = .ok (.aload_n 0, 1) := by decide +kernel
theorem dX6_thinkWithCork_5 : decode cX6_thinkWithCork 5 = .ok (.getfield 46, 3) := by decide +kernel
theorem dX6_thinkWithCork_8 : decode cX6_thinkWithCork 8 = .ok (.invokevirtual 316, 3) := by decide +kernel
theorem dX6_thinkWithCork_11 : decode cX6_thinkWithCork 11 = .ok (.aload_n 0, 1) := by decide +kernel
theorem dX6_thinkWithCork_12 : decode cX6_thinkWithCork 12 = .ok (.getfield 53, 3) := by decide +kernel
theorem dX6_thinkWithCork_15 : decode cX6_thinkWithCork 15 = .ok (.getfield 144, 3) := by decide +kernel
theorem dX6_thinkWithCork_18 : decode cX6_thinkWithCork 18 = .ok (.iload_n 1, 1) := by decide +kernel
theorem dX6_thinkWithCork_19 : decode cX6_thinkWithCork 19 = .ok (.iconst 1, 1) := by decide +kernel
theorem dX6_thinkWithCork_20 : decode cX6_thinkWithCork 20 = .ok (.iastore, 1) := by decide +kernel
theorem dX6_thinkWithCork_21 : decode cX6_thinkWithCork 21 = .ok (.return_, 1) := by decide +kernel
theorem dX6_thinkWithPipe_0 : decode cX6_thinkWithPipe 0 = .ok (.aload_n 0, 1) := by decide +kernel
theorem dX6_thinkWithPipe_1 : decode cX6_thinkWithPipe 1 = .ok (.getfield 53, 3) := by decide +kernel
theorem dX6_thinkWithPipe_4 : decode cX6_thinkWithPipe 4 = .ok (.aload_n 0, 1) := by decide +kernel
theorem dX6_thinkWithPipe_5 : decode cX6_thinkWithPipe 5 = .ok (.getfield 46, 3) := by decide +kernel
theorem dX6_thinkWithPipe_8 : decode cX6_thinkWithPipe 8 = .ok (.invokevirtual 316, 3) := by decide +kernel
theorem dX6_thinkWithPipe_11 : decode cX6_thinkWithPipe 11 = .ok (.aload_n 0, 1) := by decide +kernel
theorem dX6_thinkWithPipe_12 : decode cX6_thinkWithPipe 12 = .ok (.getfield 53, 3) := by decide +kernel
theorem dX6_thinkWithPipe_15 : decode cX6_thinkWithPipe 15 = .ok (.iload_n 1, 1) := by decide +kernel
theorem dX6_thinkWithPipe_16 : decode cX6_thinkWithPipe 16 = .ok (.iload_n 2, 1) := by decide +kernel
theorem dX6_thinkWithPipe_17 : decode cX6_thinkWithPipe 17 = .ok (.iconst 3, 1) := by decide +kernel
theorem dX6_thinkWithPipe_18 : decode cX6_thinkWithPipe 18 = .ok (.invokevirtual 129, 3) := by decide +kernel
theorem dX6_thinkWithPipe_21 : decode cX6_thinkWithPipe 21 = .ok (.pop, 1) := by decide +kernel
theorem dX6_thinkWithPipe_22 : decode cX6_thinkWithPipe 22 = .ok (.return_, 1) := by decide +kernel
theorem dX6_differenceFromThought_0 : decode cX6_differenceFromThought 0 = .ok (.iconst 0, 1) := by decide +kernel
theorem dX6_differenceFromThought_1 : decode cX6_differenceFromThought 1 = .ok (.istore_n 3, 1) := by decide +kernel
theorem dX6_differenceFromThought_2 : decode cX6_differenceFromThought 2 = .ok (.iconst 0, 1) := by decide +kernel
theorem dX6_differenceFromThought_3 : decode cX6_differenceFromThought 3 = .ok (.istore 4, 2) := by decide +kernel
theorem dX6_differenceFromThought_5 : decode cX6_differenceFromThought 5 = .ok (.iload 4, 2) := by decide +kernel
theorem dX6_differenceFromThought_7 : decode cX6_differenceFromThought 7 = .ok (.aload_n 1, 1) := by decide +kernel
theorem dX6_differenceFromThought_8 : decode cX6_differenceFromThought 8 = .ok (.getfield 276, 3) := by decide +kernel
theorem dX6_differenceFromThought_11 : decode cX6_differenceFromThought 11 = .ok (.if_icmp .ge 52, 3) := by decide +kernel
theorem dX6_differenceFromThought_14 : decode cX6_differenceFromThought 14 = .ok (.iload 4, 2) := by decide +kernel
theorem dX6_differenceFromThought_16 : decode cX6_differenceFromThought 16 = .ok (.ifCond .le 10, 3) := by decide +kernel
theorem dX6_differenceFromThought_19 : decode cX6_differenceFromThought 19 = .ok (.aload_n 0, 1) := by decide +kernel
theorem dX6_differenceFromThought_20 : decode cX6_differenceFromThought 20 = .ok (.getfield 53, 3) := by decide +kernel
theorem dX6_differenceFromThought_23 : decode cX6_differenceFromThought 23 = .ok (.invokevirtual 186, 3) := by decide +kernel
theorem dX6_differenceFromThought_26 : decode cX6_differenceFromThought 26 = .ok (.aload_n 1, 1) := by decide +kernel
theorem dX6_differenceFromThought_27 : decode cX6_differenceFromThought 27 = .ok (.iload 4, 2) := by decide +kernel
theorem dX6_differenceFromThought_29 : decode cX6_differenceFromThought 29 = .ok (.invokevirtual 270, 3) := by decide +kernel
theorem dX6_differenceFromThought_32 : decode cX6_differenceFromThought 32 = .ok (.ifCond .eq 25, 3) := by decide +kernel
theorem dX6_differenceFromThought_35 : decode cX6_differenceFromThought 35 = .ok (.iload_n 3, 1) := by decide +kernel
theorem dX6_differenceFromThought_36 : decode cX6_differenceFromThought 36 = .ok (.aload_n 0, 1) := by decide +kernel
theorem dX6_differenceFromThought_37 : decode cX6_differenceFromThought 37 = .ok (.getfield 53, 3) := by decide +kernel
theorem dX6_differenceFromThought_40 : decode cX6_differenceFromThought 40 = .ok (.iload_n 2, 1) := by decide +kernel
theorem dX6_differenceFromThought_41 : decode cX6_differenceFromThought 41 = .ok (.invokevirtual 95, 3) := by decide +kernel
theorem dX6_differenceFromThought_44 : decode cX6_differenceFromThought 44 = .ok (.aload_n 1, 1) := by decide +kernel
theorem dX6_differenceFromThought_45 : decode cX6_differenceFromThought 45 = .ok (.getfield 267, 3) := by decide +kernel
theorem dX6_differenceFromThought_48 : decode cX6_differenceFromThought 48 = .ok (.iload 4, 2) := by decide +kernel
theorem dX6_differenceFromThought_50 : decode cX6_differenceFromThought 50 = .ok (.iaload, 1) := by decide +kernel
theorem dX6_differenceFromThought_51 : decode cX6_differenceFromThought 51 = .ok (.isub, 1) := by decide +kernel
theorem dX6_differenceFromThought_52 : decode cX6_differenceFromThought 52 = .ok (.invokestatic 325, 3) := by decide +kernel
theorem dX6_differenceFromThought_55 : decode cX6_differenceFromThought 55 = .ok (.iadd, 1) := by decide +kernel
theorem dX6_differenceFromThought_56 : decode cX6_differenceFromThought 56 = .ok (.istore_n 3, 1) := by decide +kernel
theorem dX6_differenceFromThought_57 : decode cX6_differenceFromThought 57 = .ok (.iinc 4 1, 3) := by decide +kernel
theorem dX6_differenceFromThought_60 : decode cX6_differenceFromThought 60 = .ok (.goto (-55), 3) := by decide +kernel
theorem dX6_differenceFromThought_63 : decode cX6_differenceFromThought 63 = .ok (.iload_n 3, 1) := by decide +kernel
theorem dX6_differenceFromThought_64 : decode cX6_differenceFromThought 64 = .ok (.ireturn, 1) := by decide +kernel
