theorem dX7_dug_83 : decode cX7_dug 83 = .ok (.aload_n 0, 1) := by decide +kernel
theorem dX7_dug_84 : decode cX7_dug 84 = .ok (.iload_n 1, 1) := by decide +kernel
theorem dX7_dug_85 : decode cX7_dug 85 = .ok (.iload_n 2, 1) := by decide +kernel
theorem dX7_dug_86 : decode cX7_dug 86 = .ok (.invokevirtual 196, 3) := by decide +kernel
theorem dX7_dug_89 : decode cX7_dug 89 = .ok (.lstore 8, 2) := by decide +kernel
theorem dX7_dug_91 : decode cX7_dug 91 = .ok (.lload 8, 2) := by decide +kernel
theorem dX7_dug_93 : decode cX7_dug 93 = .ok (.lload 5, 2) := by decide +kernel
theorem dX7_dug_95 : decode cX7_dug 95 = .ok (.lcmp, 1) := by decide +kernel
theorem dX7_dug_96 : decode cX7_dug 96 = .ok (.ifCond .ge 8, 3) := by decide +kernel
theorem dX7_dug_99 : decode cX7_dug 99 = .ok (.iload 7, 2) := by decide +kernel
theorem dX7_dug_101 : decode cX7_dug 101 = .ok (.goto 5, 3) := by decide +kernel
theorem dX7_dug_104 : decode cX7_dug 104 = .ok (.iload 4, 2) := by decide +kernel
theorem dX7_dug_106 : decode cX7_dug 106 = .ok (.istore 4, 2) := by decide +kernel
theorem dX7_dug_108 : decode cX7_dug 108 = .ok (.lload 8, 2) := by decide +kernel
theorem dX7_dug_110 : decode cX7_dug 110 = .ok (.lload 5, 2) := by decide +kernel
theorem dX7_dug_112 : decode cX7_dug 112 = .ok (.lcmp, 1) := by decide +kernel
theorem dX7_dug_113 : decode cX7_dug 113 = .ok (.ifCond .ge 8, 3) := by decide +kernel
theorem dX7_dug_116 : decode cX7_dug 116 = .ok (.lload 8, 2) := by decide +kernel
theorem dX7_dug_118 : decode cX7_dug 118 = .ok (.goto 5, 3) := by decide +kernel
theorem dX7_dug_121 : decode cX7_dug 121 = .ok (.lload 5, 2) := by decide +kernel
theorem dX7_dug_123 : decode cX7_dug 123 = .ok (.lstore 5, 2) := by decide +kernel
theorem dX7_dug_125 : decode cX7_dug 125 = .ok (.iinc 7 1, 3) := by decide +kernel
theorem dX7_dug_128 : decode cX7_dug 128 = .ok (.goto (-71), 3) := by decide +kernel
theorem dX7_dug_131 : decode cX7_dug 131 = .ok (.iload_n 3, 1) := by decide +kernel
theorem dX7_dug_132 : decode cX7_dug 132 = .ok (.ifCond .ne 11, 3) := by decide +kernel
theorem dX7_dug_135 : decode cX7_dug 135 = .ok (.iload 4, 2) := by decide +kernel
theorem dX7_dug_137 : decode cX7_dug 137 = .ok (.invokestatic 200, 3) := by decide +kernel
theorem dX7_dug_140 : decode cX7_dug 140 = .ok (.goto 6, 3) := by decide +kernel
theorem dX7_dug_143 : decode cX7_dug 143 = .ok (.lload 5, 2) := by decide +kernel
theorem dX7_dug_145 : decode cX7_dug 145 = .ok (.l2i, 1) := by decide +kernel
theorem dX7_dug_146 : decode cX7_dug 146 = .ok (.ireturn, 1) := by decide +kernel
theorem dX7_fee_0 : decode cX7_fee 0 = .ok (.aload_n 0, 1) := by decide +kernel
theorem dX7_fee_1 : decode cX7_fee 1 = .ok (.iconst 1, 1) := by decide +kernel
theorem dX7_fee_2 : decode cX7_fee 2 = .ok (.invokevirtual 100, 3) := by decide +kernel
theorem dX7_fee_5 : decode cX7_fee 5 = .ok (.istore_n 1, 1) := by decide +kernel
theorem dX7_fee_6 : decode cX7_fee 6 = .ok (.aload_n 0, 1) := by decide +kernel
theorem dX7_fee_7 : decode cX7_fee 7 = .ok (.getfield 51, 3) := by decide +kernel
theorem dX7_fee_10 : decode cX7_fee 10 = .ok (.iconst 0, 1) := by decide +kernel
theorem dX7_fee_11 : decode cX7_fee 11 = .ok (.aload_n 0, 1) := by decide +kernel
theorem dX7_fee_12 : decode cX7_fee 12 = .ok (.getfield 9, 3) := by decide +kernel
theorem dX7_fee_15 : decode cX7_fee 15 = .ok (.iconst 5, 1) := by decide +kernel
theorem dX7_fee_16 : decode cX7_fee 16 = .ok (.iaload, 1) := by decide +kernel
theorem dX7_fee_17 : decode cX7_fee 17 = .ok (.iastore, 1) := by decide +kernel
theorem dX7_fee_18 : decode cX7_fee 18 = .ok (.aload_n 0, 1) := by decide +kernel
theorem dX7_fee_19 : decode cX7_fee 19 = .ok (.getfield 51, 3) := by decide +kernel
theorem dX7_fee_22 : decode cX7_fee 22 = .ok (.iconst 1, 1) := by decide +kernel
theorem dX7_fee_23 : decode cX7_fee 23 = .ok (.aload_n 0, 1) := by decide +kernel
theorem dX7_fee_24 : decode cX7_fee 24 = .ok (.getfield 9, 3) := by decide +kernel
theorem dX7_fee_27 : decode cX7_fee 27 = .ok (.iconst 3, 1) := by decide +kernel
theorem dX7_fee_28 : decode cX7_fee 28 = .ok (.iaload, 1) := by decide +kernel
theorem dX7_fee_29 : decode cX7_fee 29 = .ok (.iastore, 1) := by decide +kernel
theorem dX7_fee_30 : decode cX7_fee 30 = .ok (.iload_n 1, 1) := by decide +kernel
theorem dX7_fee_31 : decode cX7_fee 31 = .ok (.ifCond .ge 12, 3) := by decide +kernel
theorem dX7_fee_34 : decode cX7_fee 34 = .ok (.aload_n 0, 1) := by decide +kernel
theorem dX7_fee_35 : decode cX7_fee 35 = .ok (.getfield 9, 3) := by decide +kernel
theorem dX7_fee_38 : decode cX7_fee 38 = .ok (.iconst 5, 1) := by decide +kernel
theorem dX7_fee_39 : decode cX7_fee 39 = .ok (.iaload, 1) := by decide +kernel
theorem dX7_fee_40 : decode cX7_fee 40 = .ok (.goto 8, 3) := by decide +kernel
theorem dX7_fee_43 : decode cX7_fee 43 = .ok (.aload_n 0, 1) := by decide +kernel
theorem dX7_fee_44 : decode cX7_fee 44 = .ok (.iload_n 1, 1) := by decide +kernel
theorem dX7_fee_45 : decode cX7_fee 45 = .ok (.invokevirtual 106, 3) := by decide +kernel
theorem dX7_fee_48 : decode cX7_fee 48 = .ok (.ireturn, 1) := by decide +kernel
theorem dX7_fine_0 : decode cX7_fine 0 = .ok (.aload_n 0, 1) := by decide +kernel
theorem dX7_fine_1 : decode cX7_fine 1 = .ok (.iload_n 1, 1) := by decide +kernel
theorem dX7_fine_2 : decode cX7_fine 2 = .ok (.invokevirtual 112, 3) := by decide +kernel
theorem dX7_fine_5 : decode cX7_fine 5 = .ok (.ifCond .ne 6, 3) := by decide +kernel
theorem dX7_fine_8 : decode cX7_fine 8 = .ok (.ldc 86, 2) := by decide +kernel
theorem dX7_fine_10 : decode cX7_fine 10 = .ok (.ireturn, 1) := by decide +kernel
theorem dX7_fine_11 : decode cX7_fine 11 = .ok (.aload_n 0, 1) := by decide +kernel
theorem dX7_fine_12 : decode cX7_fine 12 = .ok (.iload_n 1, 1) := by decide +kernel
theorem dX7_fine_13 : decode cX7_fine 13 = .ok (.invokevirtual 116, 3) := by decide +kernel
theorem dX7_fine_16 : decode cX7_fine 16 = .ok (.istore_n 2, 1) := by decide +kernel
theorem dX7_fine_17 : decode cX7_fine 17 = .ok (.aload_n 0, 1) := by decide +kernel
theorem dX7_fine_18 : decode cX7_fine 18 = .ok (.iconst 2, 1) := by decide +kernel
theorem dX7_fine_19 : decode cX7_fine 19 = .ok (.invokevirtual 100, 3) := by decide +kernel
theorem dX7_fine_22 : decode cX7_fine 22 = .ok (.istore_n 3, 1) := by decide +kernel
theorem dX7_fine_23 : decode cX7_fine 23 = .ok (.aload_n 0, 1) := by decide +kernel
theorem dX7_fine_24 : decode cX7_fine 24 = .ok (.getfield 51, 3) := by decide +kernel
theorem dX7_fine_27 : decode cX7_fine 27 = .ok (.iconst 0, 1) := by decide +kernel
theorem dX7_fine_28 : decode cX7_fine 28 = .ok (.aload_n 0, 1) := by decide +kernel
theorem dX7_fine_29 : decode cX7_fine 29 = .ok (.iload_n 1, 1) := by decide +kernel
theorem dX7_fine_30 : decode cX7_fine 30 = .ok (.invokevirtual 96, 3) := by decide +kernel
theorem dX7_fine_33 : decode cX7_fine 33 = .ok (.iastore, 1) := by decide +kernel
theorem dX7_fine_34 : decode cX7_fine 34 = .ok (.aload_n 0, 1) := by decide +kernel
theorem dX7_fine_35 : decode cX7_fine 35 = .ok (.getfield 51, 3) := by decide +kernel
theorem dX7_fine_38 : decode cX7_fine 38 = .ok (.iconst 1, 1) := by decide +kernel
theorem dX7_fine_39 : decode cX7_fine 39 = .ok (.iload_n 2, 1) := by decide +kernel
theorem dX7_fine_40 : decode cX7_fine 40 = .ok (.iastore, 1) := by decide +kernel
theorem dX7_fine_41 : decode cX7_fine 41 = .ok (.iload_n 3, 1) := by decide +kernel
theorem dX7_fine_42 : decode cX7_fine 42 = .ok (.ifCond .ge 11, 3) := by decide +kernel
theorem dX7_fine_45 : decode cX7_fine 45 = .ok (.aload_n 0, 1) := by decide +kernel
theorem dX7_fine_46 : decode cX7_fine 46 = .ok (.iload_n 1, 1) := by decide +kernel
theorem dX7_fine_47 : decode cX7_fine 47 = .ok (.invokevirtual 96, 3) := by decide +kernel
theorem dX7_fine_50 : decode cX7_fine 50 = .ok (.goto 8, 3) := by decide +kernel
theorem dX7_fine_53 : decode cX7_fine 53 = .ok (.aload_n 0, 1) := by decide +kernel
theorem dX7_fine_54 : decode cX7_fine 54 = .ok (.iload_n 3, 1) := by decide +kernel
theorem dX7_fine_55 : decode cX7_fine 55 = .ok (.invokevirtual 106, 3) := by decide +kernel
theorem dX7_fine_58 : decode cX7_fine 58 = .ok (.ireturn, 1) := by decide +kernel
theorem dX7_feed_0 : decode cX7_feed 0 = .ok (.aload_n 0, 1) := by decide +kernel
theorem dX7_feed_1 : decode cX7_feed 1 = .ok (.getfield 203, 3) := by decide +kernel
theorem dX7_feed_4 : decode cX7_feed 4 = .ok (.bipush 12, 2) := by decide +kernel
theorem dX7_feed_6 : decode cX7_feed 6 = .ok (.iadd, 1) := by decide +kernel
theorem dX7_feed_7 : decode cX7_feed 7 = .ok (.bipush 96, 2) := by decide +kernel
theorem dX7_feed_9 : decode cX7_feed 9 = .ok (.if_icmp .le 6, 3) := by decide +kernel
theorem dX7_feed_12 : decode cX7_feed 12 = .ok (.ldc 87, 2) := by decide +kernel
theorem dX7_feed_14 : decode cX7_feed 14 = .ok (.ireturn, 1) := by decide +kernel
theorem dX7_feed_15 : decode cX7_feed 15 = .ok (.iconst 0, 1) := by decide +kernel
theorem dX7_feed_16 : decode cX7_feed 16 = .ok (.istore 4, 2) := by decide +kernel
theorem dX7_feed_18 : decode cX7_feed 18 = .ok (.iload 4, 2) := by decide +kernel
theorem dX7_feed_20 : decode cX7_feed 20 = .ok (.bipush 12, 2) := by decide +kernel
theorem dX7_feed_22 : decode cX7_feed 22 = .ok (.if_icmp .ge 62, 3) := by decide +kernel
theorem dX7_feed_25 : decode cX7_feed 25 = .ok (.iload 4, 2) := by decide +kernel
theorem dX7_feed_27 : decode cX7_feed 27 = .ok (.iconst 4, 1) := by decide +kernel
theorem dX7_feed_28 : decode cX7_feed 28 = .ok (.if_icmp .ge 7, 3) := by decide +kernel
theorem dX7_feed_31 : decode cX7_feed 31 = .ok (.iload_n 1, 1) := by decide +kernel
theorem dX7_feed_32 : decode cX7_feed 32 = .ok (.goto 15, 3) := by decide +kernel
theorem dX7_feed_35 : decode cX7_feed 35 = .ok (.iload 4, 2) := by decide +kernel
theorem dX7_feed_37 : decode cX7_feed 37 = .ok (.bipush 8, 2) := by decide +kernel
theorem dX7_feed_39 : decode cX7_feed 39 = .ok (.if_icmp .ge 7, 3) := by decide +kernel
theorem dX7_feed_42 : decode cX7_feed 42 = .ok (.iload_n 2, 1) := by decide +kernel
theorem dX7_feed_43 : decode cX7_feed 43 = .ok (.goto 4, 3) := by decide +kernel
theorem dX7_feed_46 : decode cX7_feed 46 = .ok (.iload_n 3, 1) := by decide +kernel
theorem dX7_feed_47 : decode cX7_feed 47 = .ok (.istore 5, 2) := by decide +kernel
theorem dX7_feed_49 : decode cX7_feed 49 = .ok (.aload_n 0, 1) := by decide +kernel
theorem dX7_feed_50 : decode cX7_feed 50 = .ok (.getfield 28, 3) := by decide +kernel
theorem dX7_feed_53 : decode cX7_feed 53 = .ok (.aload_n 0, 1) := by decide +kernel
theorem dX7_feed_54 : decode cX7_feed 54 = .ok (.getfield 203, 3) := by decide +kernel
theorem dX7_feed_57 : decode cX7_feed 57 = .ok (.iload 4, 2) := by decide +kernel
theorem dX7_feed_59 : decode cX7_feed 59 = .ok (.iadd, 1) := by decide +kernel
theorem dX7_feed_60 : decode cX7_feed 60 = .ok (.iload 5, 2) := by decide +kernel
theorem dX7_feed_62 : decode cX7_feed 62 = .ok (.bipush 24, 2) := by decide +kernel
theorem dX7_feed_64 : decode cX7_feed 64 = .ok (.bipush 8, 2) := by decide +kernel
theorem dX7_feed_66 : decode cX7_feed 66 = .ok (.iload 4, 2) := by decide +kernel
theorem dX7_feed_68 : decode cX7_feed 68 = .ok (.iconst 4, 1) := by decide +kernel
theorem dX7_feed_69 : decode cX7_feed 69 = .ok (.irem, 1) := by decide +kernel
theorem dX7_feed_70 : decode cX7_feed 70 = .ok (.imul, 1) := by decide +kernel
theorem dX7_feed_71 : decode cX7_feed 71 = .ok (.isub, 1) := by decide +kernel
theorem dX7_feed_72 : decode cX7_feed 72 = .ok (.ishr, 1) := by decide +kernel
theorem dX7_feed_73 : decode cX7_feed 73 = .ok (.sipush 255, 3) := by decide +kernel
theorem dX7_feed_76 : decode cX7_feed 76 = .ok (.iand, 1) := by decide +kernel
theorem dX7_feed_77 : decode cX7_feed 77 = .ok (.iastore, 1) := by decide +kernel
theorem dX7_feed_78 : decode cX7_feed 78 = .ok (.iinc 4 1, 3) := by decide +kernel
theorem dX7_feed_81 : decode cX7_feed 81 = .ok (.goto (-63), 3) := by decide +kernel
theorem dX7_feed_84 : decode cX7_feed 84 = .ok (.aload_n 0, 1) := by decide +kernel
theorem dX7_feed_85 : decode cX7_feed 85 = .ok (.dup, 1) := by decide +kernel
theorem dX7_feed_86 : decode cX7_feed 86 = .ok (.getfield 203, 3) := by decide +kernel
theorem dX7_feed_89 : decode cX7_feed 89 = .ok (.bipush 12, 2) := by decide +kernel
theorem dX7_feed_91 : decode cX7_feed 91 = .ok (.iadd, 1) := by decide +kernel
theorem dX7_feed_92 : decode cX7_feed 92 = .ok (.putfield 203, 3) := by decide +kernel
theorem dX7_feed_95 : decode cX7_feed 95 = .ok (.aload_n 0, 1) := by decide +kernel
theorem dX7_feed_96 : decode cX7_feed 96 = .ok (.getfield 203, 3) := by decide +kernel
theorem dX7_feed_99 : decode cX7_feed 99 = .ok (.ireturn, 1) := by decide +kernel
theorem dX7_trim_0 : decode cX7_trim 0 = .ok (.iload_n 1, 1) := by decide +kernel
theorem dX7_trim_1 : decode cX7_trim 1 = .ok (.iconst 0, 1) := by decide +kernel
theorem dX7_trim_2 : decode cX7_trim 2 = .ok (.aload_n 0, 1) := by decide +kernel
theorem dX7_trim_3 : decode cX7_trim 3 = .ok (.getfield 203, 3) := by decide +kernel
theorem dX7_trim_6 : decode cX7_trim 6 = .ok (.invokestatic 82, 3) := by decide +kernel
theorem dX7_trim_9 : decode cX7_trim 9 = .ok (.ifCond .ne 6, 3) := by decide +kernel
theorem dX7_trim_12 : decode cX7_trim 12 = .ok (.ldc 86, 2) := by decide +kernel
theorem dX7_trim_14 : decode cX7_trim 14 = .ok (.ireturn, 1) := by decide +kernel
theorem dX7_trim_15 : decode cX7_trim 15 = .ok (.aload_n 0, 1) := by decide +kernel
theorem dX7_trim_16 : decode cX7_trim 16 = .ok (.iload_n 1, 1) := by decide +kernel
theorem dX7_trim_17 : decode cX7_trim 17 = .ok (.putfield 203, 3) := by decide +kernel
theorem dX7_trim_20 : decode cX7_trim 20 = .ok (.iload_n 1, 1) := by decide +kernel
theorem dX7_trim_21 : decode cX7_trim 21 = .ok (.ireturn, 1) := by decide +kernel
theorem dX7_isLetter_0 : decode cX7_isLetter 0 = .ok (.iload_n 1, 1) := by decide +kernel
theorem dX7_isLetter_1 : decode cX7_isLetter 1 = .ok (.aload_n 0, 1) := by decide +kernel
theorem dX7_isLetter_2 : decode cX7_isLetter 2 = .ok (.getfield 203, 3) := by decide +kernel
theorem dX7_isLetter_5 : decode cX7_isLetter 5 = .ok (.if_icmp .ge 29, 3) := by decide +kernel
theorem dX7_isLetter_8 : decode cX7_isLetter 8 = .ok (.aload_n 0, 1) := by decide +kernel
theorem dX7_isLetter_9 : decode cX7_isLetter 9 = .ok (.getfield 28, 3) := by decide +kernel
theorem dX7_isLetter_12 : decode cX7_isLetter 12 = .ok (.iload_n 1, 1) := by decide +kernel
theorem dX7_isLetter_13 : decode cX7_isLetter 13 = .ok (.iaload, 1) := by decide +kernel
theorem dX7_isLetter_14 : decode cX7_isLetter 14 = .ok (.bipush 97, 2) := by decide +kernel
theorem dX7_isLetter_16 : decode cX7_isLetter 16 = .ok (.if_icmp .lt 18, 3) := by decide +kernel
theorem dX7_isLetter_19 : decode cX7_isLetter 19 = .ok (.aload_n 0, 1) := by decide +kernel
theorem dX7_isLetter_20 : decode cX7_isLetter 20 = .ok (.getfield 28, 3) := by decide +kernel
theorem dX7_isLetter_23 : decode cX7_isLetter 23 = .ok (.iload_n 1, 1) := by decide +kernel
theorem dX7_isLetter_24 : decode cX7_isLetter 24 = .ok (.iaload, 1) := by decide +kernel
theorem dX7_isLetter_25 : decode cX7_isLetter 25 = .ok (.bipush 122, 2) := by decide +kernel
theorem dX7_isLetter_27 : decode cX7_isLetter 27 = .ok (.if_icmp .gt 7, 3) := by decide +kernel
theorem dX7_isLetter_30 : decode cX7_isLetter 30 = .ok (.iconst 1, 1) := by decide +kernel
theorem dX7_isLetter_31 : decode cX7_isLetter 31 = .ok (.goto 4, 3) := by decide +kernel
theorem dX7_isLetter_34 : decode cX7_isLetter 34 = .ok (.iconst 0, 1) := by decide +kernel
theorem dX7_isLetter_35 : decode cX7_isLetter 35 = .ok (.ireturn, 1) := by decide +kernel
theorem dX7_isFigure_0 : decode cX7_isFigure 0 = .ok (.iload_n 1, 1) := by decide +kernel
theorem dX7_isFigure_1 : decode cX7_isFigure 1 = .ok (.aload_n 0, 1) := by decide +kernel
theorem dX7_isFigure_2 : decode cX7_isFigure 2 = .ok (.getfield 203, 3) := by decide +kernel
theorem dX7_isFigure_5 : decode cX7_isFigure 5 = .ok (.if_icmp .ge 29, 3) := by decide +kernel
theorem dX7_isFigure_8 : decode cX7_isFigure 8 = .ok (.aload_n 0, 1) := by decide +kernel
theorem dX7_isFigure_9 : decode cX7_isFigure 9 = .ok (.getfield 28, 3) := by decide +kernel
theorem dX7_isFigure_12 : decode cX7_isFigure 12 = .ok (.iload_n 1, 1) := by decide +kernel
theorem dX7_isFigure_13 : decode cX7_isFigure 13 = .ok (.iaload, 1) := by decide +kernel
theorem dX7_isFigure_14 : decode cX7_isFigure 14 = .ok (.bipush 48, 2) := by decide +kernel
theorem dX7_isFigure_16 : decode cX7_isFigure 16 = .ok (.if_icmp .lt 18, 3) := by decide +kernel
theorem dX7_isFigure_19 : decode cX7_isFigure 19 = .ok (.aload_n 0, 1) := by decide +kernel
theorem dX7_isFigure_20 : decode cX7_isFigure 20 = .ok (.getfield 28, 3) := by decide +kernel
theorem dX7_isFigure_23 : decode cX7_isFigure 23 = .ok (.iload_n 1, 1) := by decide +kernel
theorem dX7_isFigure_24 : decode cX7_isFigure 24 = .ok (.iaload, 1) := by decide +kernel
theorem dX7_isFigure_25 : decode cX7_isFigure 25 = .ok (.bipush 57, 2) := by decide +kernel
theorem dX7_isFigure_27 : decode cX7_isFigure 27 = .ok (.if_icmp .gt 7, 3) := by decide +kernel
theorem dX7_isFigure_30 : decode cX7_isFigure 30 = .ok (.iconst 1, 1) := by decide +kernel
theorem dX7_isFigure_31 : decode cX7_isFigure 31 = .ok (.goto 4, 3) := by decide +kernel
theorem dX7_isFigure_34 : decode cX7_isFigure 34 = .ok (.iconst 0, 1) := by decide +kernel
theorem dX7_isFigure_35 : decode cX7_isFigure 35 = .ok (.ireturn, 1) := by decide +kernel
theorem dX7_go_0 : decode cX7_go 0 = .ok (.aload_n 0, 1) := by decide +kernel
theorem dX7_go_1 : decode cX7_go 1 = .ok (.getfield 207, 3) := by decide +kernel
theorem dX7_go_4 : decode cX7_go 4 = .ok (.aload_n 0, 1) := by decide +kernel
theorem dX7_go_5 : decode cX7_go 5 = .ok (.getfield 203, 3) := by decide +kernel
theorem dX7_go_8 : decode cX7_go 8 = .ok (.if_icmp .ge 30, 3) := by decide +kernel
theorem dX7_go_11 : decode cX7_go 11 = .ok (.aload_n 0, 1) := by decide +kernel
theorem dX7_go_12 : decode cX7_go 12 = .ok (.getfield 28, 3) := by decide +kernel
theorem dX7_go_15 : decode cX7_go 15 = .ok (.aload_n 0, 1) := by decide +kernel
theorem dX7_go_16 : decode cX7_go 16 = .ok (.getfield 207, 3) := by decide +kernel
theorem dX7_go_19 : decode cX7_go 19 = .ok (.iaload, 1) := by decide +kernel
theorem dX7_go_20 : decode cX7_go 20 = .ok (.bipush 32, 2) := by decide +kernel
theorem dX7_go_22 : decode cX7_go 22 = .ok (.if_icmp .ne 16, 3) := by decide +kernel
theorem dX7_go_25 : decode cX7_go 25 = .ok (.aload_n 0, 1) := by decide +kernel
theorem dX7_go_26 : decode cX7_go 26 = .ok (.dup, 1) := by decide +kernel
theorem dX7_go_27 : decode cX7_go 27 = .ok (.getfield 207, 3) := by decide +kernel
theorem dX7_go_30 : decode cX7_go 30 = .ok (.iconst 1, 1) := by decide +kernel
theorem dX7_go_31 : decode cX7_go 31 = .ok (.iadd, 1) := by decide +kernel
theorem dX7_go_32 : decode cX7_go 32 = .ok (.putfield 207, 3) := by decide +kernel
theorem dX7_go_35 : decode cX7_go 35 = .ok (.goto (-35), 3) := by decide +kernel
theorem dX7_go_38 : decode cX7_go 38 = .ok (.aload_n 0, 1) := by decide +kernel
theorem dX7_go_39 : decode cX7_go 39 = .ok (.aload_n 0, 1) := by decide +kernel
theorem dX7_go_40 : decode cX7_go 40 = .ok (.getfield 207, 3) := by decide +kernel
theorem dX7_go_43 : decode cX7_go 43 = .ok (.putfield 210, 3) := by decide +kernel
theorem dX7_go_46 : decode cX7_go 46 = .ok (.aload_n 0, 1) := by decide +kernel
theorem dX7_go_47 : decode cX7_go 47 = .ok (.getfield 210, 3) := by decide +kernel
theorem dX7_go_50 : decode cX7_go 50 = .ok (.aload_n 0, 1) := by decide +kernel
theorem dX7_go_51 : decode cX7_go 51 = .ok (.getfield 213, 3) := by decide +kernel
theorem dX7_go_54 : decode cX7_go 54 = .ok (.if_icmp .ne 7, 3) := by decide +kernel
theorem dX7_go_57 : decode cX7_go 57 = .ok (.iconst 1, 1) := by decide +kernel
theorem dX7_go_58 : decode cX7_go 58 = .ok (.goto 4, 3) := by decide +kernel
theorem dX7_go_61 : decode cX7_go 61 = .ok (.iconst 0, 1) := by decide +kernel
theorem dX7_go_62 : decode cX7_go 62 = .ok (.istore_n 1, 1) := by decide +kernel
theorem dX7_go_63 : decode cX7_go 63 = .ok (.aload_n 0, 1) := by decide +kernel
theorem dX7_go_64 : decode cX7_go 64 = .ok (.getfield 210, 3) := by decide +kernel
theorem dX7_go_67 : decode cX7_go 67 = .ok (.aload_n 0, 1) := by decide +kernel
theorem dX7_go_68 : decode cX7_go 68 = .ok (.getfield 203, 3) := by decide +kernel
theorem dX7_go_71 : decode cX7_go 71 = .ok (.if_icmp .ne 11, 3) := by decide +kernel
theorem dX7_go_74 : decode cX7_go 74 = .ok (.aload_n 0, 1) := by decide +kernel
theorem dX7_go_75 : decode cX7_go 75 = .ok (.iconst 0, 1) := by decide +kernel
theorem dX7_go_76 : decode cX7_go 76 = .ok (.putfield 216, 3) := by decide +kernel
theorem dX7_go_79 : decode cX7_go 79 = .ok (.goto 224, 3) := by decide +kernel
theorem dX7_go_82 : decode cX7_go 82 = .ok (.aload_n 0, 1) := by decide +kernel
theorem dX7_go_83 : decode cX7_go 83 = .ok (.aload_n 0, 1) := by decide +kernel
theorem dX7_go_84 : decode cX7_go 84 = .ok (.getfield 210, 3) := by decide +kernel
theorem dX7_go_87 : decode cX7_go 87 = .ok (.invokevirtual 219, 3) := by decide +kernel
theorem dX7_go_90 : decode cX7_go 90 = .ok (.ifCond .eq 64, 3) := by decide +kernel
theorem dX7_go_93 : decode cX7_go 93 = .ok (.aload_n 0, 1) := by decide +kernel
theorem dX7_go_94 : decode cX7_go 94 = .ok (.aload_n 0, 1) := by decide +kernel
theorem dX7_go_95 : decode cX7_go 95 = .ok (.getfield 207, 3) := by decide +kernel
theorem dX7_go_98 : decode cX7_go 98 = .ok (.invokevirtual 219, 3) := by decide +kernel
theorem dX7_go_101 : decode cX7_go 101 = .ok (.ifCond .eq 16, 3) := by decide +kernel
theorem dX7_go_104 : decode cX7_go 104 = .ok (.aload_n 0, 1) := by decide +kernel
theorem dX7_go_105 : decode cX7_go 105 = .ok (.dup, 1) := by decide +kernel
theorem dX7_go_106 : decode cX7_go 106 = .ok (.getfield 207, 3) := by decide +kernel
theorem dX7_go_109 : decode cX7_go 109 = .ok (.iconst 1, 1) := by decide +kernel
theorem dX7_go_110 : decode cX7_go 110 = .ok (.iadd, 1) := by decide +kernel
theorem dX7_go_111 : decode cX7_go 111 = .ok (.putfield 207, 3) := by decide +kernel
theorem dX7_go_114 : decode cX7_go 114 = .ok (.goto (-21), 3) := by decide +kernel
theorem dX7_go_117 : decode cX7_go 117 = .ok (.aload_n 0, 1) := by decide +kernel
theorem dX7_go_118 : decode cX7_go 118 = .ok (.iload_n 1, 1) := by decide +kernel
theorem dX7_go_119 : decode cX7_go 119 = .ok (.ifCond .eq 7, 3) := by decide +kernel
theorem dX7_go_122 : decode cX7_go 122 = .ok (.iconst 4, 1) := by decide +kernel
theorem dX7_go_123 : decode cX7_go 123 = .ok (.goto 4, 3) := by decide +kernel
theorem dX7_go_126 : decode cX7_go 126 = .ok (.iconst 1, 1) := by decide +kernel
theorem dX7_go_127 : decode cX7_go 127 = .ok (.putfield 216, 3) := by decide +kernel
theorem dX7_go_130 : decode cX7_go 130 = .ok (.aload_n 0, 1) := by decide +kernel
theorem dX7_go_131 : decode cX7_go 131 = .ok (.aload_n 0, 1) := by decide +kernel
theorem dX7_go_132 : decode cX7_go 132 = .ok (.getfield 28, 3) := by decide +kernel
theorem dX7_go_135 : decode cX7_go 135 = .ok (.aload_n 0, 1) := by decide +kernel
theorem dX7_go_136 : decode cX7_go 136 = .ok (.getfield 210, 3) := by decide +kernel
theorem dX7_go_139 : decode cX7_go 139 = .ok (.iaload, 1) := by decide +kernel
theorem dX7_go_140 : decode cX7_go 140 = .ok (.putfield 222, 3) := by decide +kernel
theorem dX7_go_143 : decode cX7_go 143 = .ok (.aload_n 0, 1) := by decide +kernel
theorem dX7_go_144 : decode cX7_go 144 = .ok (.aload_n 0, 1) := by decide +kernel
theorem dX7_go_145 : decode cX7_go 145 = .ok (.getfield 207, 3) := by decide +kernel
theorem dX7_go_148 : decode cX7_go 148 = .ok (.putfield 213, 3) := by decide +kernel
theorem dX7_go_151 : decode cX7_go 151 = .ok (.goto 152, 3) := by decide +kernel
theorem dX7_go_154 : decode cX7_go 154 = .ok (.aload_n 0, 1) := by decide +kernel
theorem dX7_go_155 : decode cX7_go 155 = .ok (.aload_n 0, 1) := by decide +kernel
theorem dX7_go_156 : decode cX7_go 156 = .ok (.getfield 210, 3) := by decide +kernel
theorem dX7_go_159 : decode cX7_go 159 = .ok (.invokevirtual 225, 3) := by decide +kernel
theorem dX7_go_162 : decode cX7_go 162 = .ok (.ifCond .eq 113, 3) := by decide +kernel
theorem dX7_go_165 : decode cX7_go 165 = .ok (.aload_n 0, 1) := by decide +kernel
theorem dX7_go_166 : decode cX7_go 166 = .ok (.iconst 0, 1) := by decide +kernel
theorem dX7_go_167 : decode cX7_go 167 = .ok (.putfield 222, 3) := by decide +kernel
theorem dX7_go_170 : decode cX7_go 170 = .ok (.aload_n 0, 1) := by decide +kernel
theorem dX7_go_171 : decode cX7_go 171 = .ok (.aload_n 0, 1) := by decide +kernel
theorem dX7_go_172 : decode cX7_go 172 = .ok (.getfield 207, 3) := by decide +kernel
theorem dX7_go_175 : decode cX7_go 175 = .ok (.invokevirtual 225, 3) := by decide +kernel
theorem dX7_go_178 : decode cX7_go 178 = .ok (.ifCond .eq 60, 3) := by decide +kernel
theorem dX7_go_181 : decode cX7_go 181 = .ok (.aload_n 0, 1) := by decide +kernel
theorem dX7_go_182 : decode cX7_go 182 = .ok (.aload_n 0, 1) := by decide +kernel
theorem dX7_go_183 : decode cX7_go 183 = .ok (.getfield 207, 3) := by decide +kernel
theorem dX7_go_186 : decode cX7_go 186 = .ok (.aload_n 0, 1) := by decide +kernel
theorem dX7_go_187 : decode cX7_go 187 = .ok (.getfield 210, 3) := by decide +kernel
theorem dX7_go_190 : decode cX7_go 190 = .ok (.isub, 1) := by decide +kernel
theorem dX7_go_191 : decode cX7_go 191 = .ok (.iconst 4, 1) := by decide +kernel
theorem dX7_go_192 : decode cX7_go 192 = .ok (.if_icmp .ge 26, 3) := by decide +kernel
theorem dX7_go_195 : decode cX7_go 195 = .ok (.bipush 10, 2) := by decide +kernel
theorem dX7_go_197 : decode cX7_go 197 = .ok (.aload_n 0, 1) := by decide +kernel
theorem dX7_go_198 : decode cX7_go 198 = .ok (.getfield 222, 3) := by decide +kernel
theorem dX7_go_201 : decode cX7_go 201 = .ok (.imul, 1) := by decide +kernel
theorem dX7_go_202 : decode cX7_go 202 = .ok (.aload_n 0, 1) := by decide +kernel
theorem dX7_go_203 : decode cX7_go 203 = .ok (.getfield 28, 3) := by decide +kernel
theorem dX7_go_206 : decode cX7_go 206 = .ok (.aload_n 0, 1) := by decide +kernel
theorem dX7_go_207 : decode cX7_go 207 = .ok (.getfield 207, 3) := by decide +kernel
theorem dX7_go_210 : decode cX7_go 210 = .ok (.iaload, 1) := by decide +kernel
theorem dX7_go_211 : decode cX7_go 211 = .ok (.iadd, 1) := by decide +kernel
theorem dX7_go_212 : decode cX7_go 212 = .ok (.bipush 48, 2) := by decide +kernel
theorem dX7_go_214 : decode cX7_go 214 = .ok (.isub, 1) := by decide +kernel
theorem dX7_go_215 : decode cX7_go 215 = .ok (.goto 7, 3) := by decide +kernel
theorem dX7_go_218 : decode cX7_go 218 = .ok (.aload_n 0, 1) := by decide +kernel
theorem dX7_go_219 : decode cX7_go 219 = .ok (.getfield 222, 3) := by decide +kernel
theorem dX7_go_222 : decode cX7_go 222 = .ok (.putfield 222, 3) := by decide +kernel
theorem dX7_go_225 : decode cX7_go 225 = .ok (.aload_n 0, 1) := by decide +kernel
theorem dX7_go_226 : decode cX7_go 226 = .ok (.dup, 1) := by decide +kernel
theorem dX7_go_227 : decode cX7_go 227 = .ok (.getfield 207, 3) := by decide +kernel
theorem dX7_go_230 : decode cX7_go 230 = .ok (.iconst 1, 1) := by decide +kernel
theorem dX7_go_231 : decode cX7_go 231 = .ok (.iadd, 1) := by decide +kernel
theorem dX7_go_232 : decode cX7_go 232 = .ok (.putfield 207, 3) := by decide +kernel
theorem dX7_go_235 : decode cX7_go 235 = .ok (.goto (-65), 3) := by decide +kernel
theorem dX7_go_238 : decode cX7_go 238 = .ok (.aload_n 0, 1) := by decide +kernel
theorem dX7_go_239 : decode cX7_go 239 = .ok (.iload_n 1, 1) := by decide +kernel
theorem dX7_go_240 : decode cX7_go 240 = .ok (.ifCond .ne 16, 3) := by decide +kernel
theorem dX7_go_243 : decode cX7_go 243 = .ok (.aload_n 0, 1) := by decide +kernel
theorem dX7_go_244 : decode cX7_go 244 = .ok (.getfield 207, 3) := by decide +kernel
theorem dX7_go_247 : decode cX7_go 247 = .ok (.aload_n 0, 1) := by decide +kernel
theorem dX7_go_248 : decode cX7_go 248 = .ok (.getfield 210, 3) := by decide +kernel
theorem dX7_go_251 : decode cX7_go 251 = .ok (.isub, 1) := by decide +kernel
theorem dX7_go_252 : decode cX7_go 252 = .ok (.iconst 4, 1) := by decide +kernel
theorem dX7_go_253 : decode cX7_go 253 = .ok (.if_icmp .le 7, 3) := by decide +kernel
theorem dX7_go_256 : decode cX7_go 256 = .ok (.iconst 4, 1) := by decide +kernel
theorem dX7_go_257 : decode cX7_go 257 = .ok (.goto 4, 3) := by decide +kernel
theorem dX7_go_260 : decode cX7_go 260 = .ok (.iconst 2, 1) := by decide +kernel
theorem dX7_go_261 : decode cX7_go 261 = .ok (.putfield 216, 3) := by decide +kernel
theorem dX7_go_264 : decode cX7_go 264 = .ok (.aload_n 0, 1) := by decide +kernel
theorem dX7_go_265 : decode cX7_go 265 = .ok (.aload_n 0, 1) := by decide +kernel
theorem dX7_go_266 : decode cX7_go 266 = .ok (.getfield 207, 3) := by decide +kernel
theorem dX7_go_269 : decode cX7_go 269 = .ok (.putfield 213, 3) := by decide +kernel
theorem dX7_go_272 : decode cX7_go 272 = .ok (.goto 31, 3) := by decide +kernel
theorem dX7_go_275 : decode cX7_go 275 = .ok (.aload_n 0, 1) := by decide +kernel
theorem dX7_go_276 : decode cX7_go 276 = .ok (.iconst 3, 1) := by decide +kernel
theorem dX7_go_277 : decode cX7_go 277 = .ok (.putfield 216, 3) := by decide +kernel
theorem dX7_go_280 : decode cX7_go 280 = .ok (.aload_n 0, 1) := by decide +kernel
theorem dX7_go_281 : decode cX7_go 281 = .ok (.aload_n 0, 1) := by decide +kernel
theorem dX7_go_282 : decode cX7_go 282 = .ok (.getfield 28, 3) := by decide +kernel
theorem dX7_go_285 : decode cX7_go 285 = .ok (.aload_n 0, 1) := by decide +kernel
theorem dX7_go_286 : decode cX7_go 286 = .ok (.getfield 210, 3) := by decide +kernel
theorem dX7_go_289 : decode cX7_go 289 = .ok (.iaload, 1) := by decide +kernel
theorem dX7_go_290 : decode cX7_go 290 = .ok (.putfield 222, 3) := by decide +kernel
theorem dX7_go_293 : decode cX7_go 293 = .ok (.aload_n 0, 1) := by decide +kernel
theorem dX7_go_294 : decode cX7_go 294 = .ok (.dup, 1) := by decide +kernel
theorem dX7_go_295 : decode cX7_go 295 = .ok (.getfield 207, 3) := by decide +kernel
theorem dX7_go_298 : decode cX7_go 298 = .ok (.iconst 1, 1) := by decide +kernel
theorem dX7_go_299 : decode cX7_go 299 = .ok (.iadd, 1) := by decide +kernel
theorem dX7_go_300 : decode cX7_go 300 = .ok (.putfield 207, 3) := by decide +kernel
theorem dX7_go_303 : decode cX7_go 303 = .ok (.return_, 1) := by decide +kernel
theorem dX7_takesKey_0 : decode cX7_takesKey 0 = .ok (.aload_n 0, 1) := by decide +kernel
theorem dX7_takesKey_1 : decode cX7_takesKey 1 = .ok (.getfield 216, 3) := by decide +kernel
theorem dX7_takesKey_4 : decode cX7_takesKey 4 = .ok (.iconst 1, 1) := by decide +kernel
theorem dX7_takesKey_5 : decode cX7_takesKey 5 = .ok (.if_icmp .eq 5, 3) := by decide +kernel
theorem dX7_takesKey_8 : decode cX7_takesKey 8 = .ok (.iconst 0, 1) := by decide +kernel
theorem dX7_takesKey_9 : decode cX7_takesKey 9 = .ok (.ireturn, 1) := by decide +kernel
theorem dX7_takesKey_10 : decode cX7_takesKey 10 = .ok (.iconst 0, 1) := by decide +kernel
theorem dX7_takesKey_11 : decode cX7_takesKey 11 = .ok (.istore_n 1, 1) := by decide +kernel
theorem dX7_takesKey_12 : decode cX7_takesKey 12 = .ok (.iload_n 1, 1) := by decide +kernel
theorem dX7_takesKey_13 : decode cX7_takesKey 13 = .ok (.iconst 3, 1) := by decide +kernel
theorem dX7_takesKey_14 : decode cX7_takesKey 14 = .ok (.if_icmp .ge 113, 3) := by decide +kernel
theorem dX7_takesKey_17 : decode cX7_takesKey 17 = .ok (.aload_n 0, 1) := by decide +kernel
theorem dX7_takesKey_18 : decode cX7_takesKey 18 = .ok (.getfield 35, 3) := by decide +kernel
theorem dX7_takesKey_21 : decode cX7_takesKey 21 = .ok (.iload_n 1, 1) := by decide +kernel
theorem dX7_takesKey_22 : decode cX7_takesKey 22 = .ok (.iconst 1, 1) := by decide +kernel
theorem dX7_takesKey_23 : decode cX7_takesKey 23 = .ok (.iadd, 1) := by decide +kernel
theorem dX7_takesKey_24 : decode cX7_takesKey 24 = .ok (.iaload, 1) := by decide +kernel
theorem dX7_takesKey_25 : decode cX7_takesKey 25 = .ok (.aload_n 0, 1) := by decide +kernel
theorem dX7_takesKey_26 : decode cX7_takesKey 26 = .ok (.getfield 35, 3) := by decide +kernel
theorem dX7_takesKey_29 : decode cX7_takesKey 29 = .ok (.iload_n 1, 1) := by decide +kernel
theorem dX7_takesKey_30 : decode cX7_takesKey 30 = .ok (.iaload, 1) := by decide +kernel
theorem dX7_takesKey_31 : decode cX7_takesKey 31 = .ok (.isub, 1) := by decide +kernel
theorem dX7_takesKey_32 : decode cX7_takesKey 32 = .ok (.istore_n 2, 1) := by decide +kernel
theorem dX7_takesKey_33 : decode cX7_takesKey 33 = .ok (.iload_n 2, 1) := by decide +kernel
theorem dX7_takesKey_34 : decode cX7_takesKey 34 = .ok (.aload_n 0, 1) := by decide +kernel
theorem dX7_takesKey_35 : decode cX7_takesKey 35 = .ok (.getfield 207, 3) := by decide +kernel
theorem dX7_takesKey_38 : decode cX7_takesKey 38 = .ok (.aload_n 0, 1) := by decide +kernel
theorem dX7_takesKey_39 : decode cX7_takesKey 39 = .ok (.getfield 210, 3) := by decide +kernel
theorem dX7_takesKey_42 : decode cX7_takesKey 42 = .ok (.isub, 1) := by decide +kernel
theorem dX7_takesKey_43 : decode cX7_takesKey 43 = .ok (.if_icmp .ne 7, 3) := by decide +kernel
theorem dX7_takesKey_46 : decode cX7_takesKey 46 = .ok (.iconst 1, 1) := by decide +kernel
theorem dX7_takesKey_47 : decode cX7_takesKey 47 = .ok (.goto 4, 3) := by decide +kernel
theorem dX7_takesKey_50 : decode cX7_takesKey 50 = .ok (.iconst 0, 1) := by decide +kernel
theorem dX7_takesKey_51 : decode cX7_takesKey 51 = .ok (.istore_n 3, 1) := by decide +kernel
theorem dX7_takesKey_52 : decode cX7_takesKey 52 = .ok (.iconst 0, 1) := by decide +kernel
theorem dX7_takesKey_53 : decode cX7_takesKey 53 = .ok (.istore 4, 2) := by decide +kernel
theorem dX7_takesKey_55 : decode cX7_takesKey 55 = .ok (.iload 4, 2) := by decide +kernel
theorem dX7_takesKey_57 : decode cX7_takesKey 57 = .ok (.iload_n 2, 1) := by decide +kernel
theorem dX7_takesKey_58 : decode cX7_takesKey 58 = .ok (.if_icmp .ge 48, 3) := by decide +kernel
theorem dX7_takesKey_61 : decode cX7_takesKey 61 = .ok (.iload_n 3, 1) := by decide +kernel
theorem dX7_takesKey_62 : decode cX7_takesKey 62 = .ok (.ifCond .eq 44, 3) := by decide +kernel
theorem dX7_takesKey_65 : decode cX7_takesKey 65 = .ok (.aload_n 0, 1) := by decide +kernel
theorem dX7_takesKey_66 : decode cX7_takesKey 66 = .ok (.getfield 28, 3) := by decide +kernel
theorem dX7_takesKey_69 : decode cX7_takesKey 69 = .ok (.aload_n 0, 1) := by decide +kernel
theorem dX7_takesKey_70 : decode cX7_takesKey 70 = .ok (.getfield 210, 3) := by decide +kernel
theorem dX7_takesKey_73 : decode cX7_takesKey 73 = .ok (.iload 4, 2) := by decide +kernel
theorem dX7_takesKey_75 : decode cX7_takesKey 75 = .ok (.iadd, 1) := by decide +kernel
theorem dX7_takesKey_76 : decode cX7_takesKey 76 = .ok (.iaload, 1) := by decide +kernel
theorem dX7_takesKey_77 : decode cX7_takesKey 77 = .ok (.aload_n 0, 1) := by decide +kernel
theorem dX7_takesKey_78 : decode cX7_takesKey 78 = .ok (.getfield 31, 3) := by decide +kernel
theorem dX7_takesKey_81 : decode cX7_takesKey 81 = .ok (.aload_n 0, 1) := by decide +kernel
theorem dX7_takesKey_82 : decode cX7_takesKey 82 = .ok (.getfield 35, 3) := by decide +kernel
theorem dX7_takesKey_85 : decode cX7_takesKey 85 = .ok (.iload_n 1, 1) := by decide +kernel
theorem dX7_takesKey_86 : decode cX7_takesKey 86 = .ok (.iaload, 1) := by decide +kernel
theorem dX7_takesKey_87 : decode cX7_takesKey 87 = .ok (.iload 4, 2) := by decide +kernel
theorem dX7_takesKey_89 : decode cX7_takesKey 89 = .ok (.iadd, 1) := by decide +kernel
theorem dX7_takesKey_90 : decode cX7_takesKey 90 = .ok (.caload, 1) := by decide +kernel
theorem dX7_takesKey_91 : decode cX7_takesKey 91 = .ok (.if_icmp .ne 7, 3) := by decide +kernel
theorem dX7_takesKey_94 : decode cX7_takesKey 94 = .ok (.iconst 1, 1) := by decide +kernel
theorem dX7_takesKey_95 : decode cX7_takesKey 95 = .ok (.goto 4, 3) := by decide +kernel
theorem dX7_takesKey_98 : decode cX7_takesKey 98 = .ok (.iconst 0, 1) := by decide +kernel
theorem dX7_takesKey_99 : decode cX7_takesKey 99 = .ok (.istore_n 3, 1) := by decide +kernel
theorem dX7_takesKey_100 : decode cX7_takesKey 100 = .ok (.iinc 4 1, 3) := by decide +kernel
theorem dX7_takesKey_103 : decode cX7_takesKey 103 = .ok (.goto (-48), 3) := by decide +kernel
theorem dX7_takesKey_106 : decode cX7_takesKey 106 = .ok (.iload_n 3, 1) := by decide +kernel
theorem dX7_takesKey_107 : decode cX7_takesKey 107 = .ok (.ifCond .eq 14, 3) := by decide +kernel
theorem dX7_takesKey_110 : decode cX7_takesKey 110 = .ok (.aload_n 0, 1) := by decide +kernel
theorem dX7_takesKey_111 : decode cX7_takesKey 111 = .ok (.iload_n 1, 1) := by decide +kernel
theorem dX7_takesKey_112 : decode cX7_takesKey 112 = .ok (.putfield 228, 3) := by decide +kernel
theorem dX7_takesKey_115 : decode cX7_takesKey 115 = .ok (.aload_n 0, 1) := by decide +kernel
theorem dX7_takesKey_116 : decode cX7_takesKey 116 = .ok (.invokevirtual 231, 3) := by decide +kernel
theorem dX7_takesKey_119 : decode cX7_takesKey 119 = .ok (.iconst 1, 1) := by decide +kernel
theorem dX7_takesKey_120 : decode cX7_takesKey 120 = .ok (.ireturn, 1) := by decide +kernel
theorem dX7_takesKey_121 : decode cX7_takesKey 121 = .ok (.iinc 1 1, 3) := by decide +kernel
theorem dX7_takesKey_124 : decode cX7_takesKey 124 = .ok (.goto (-112), 3) := by decide +kernel
theorem dX7_takesKey_127 : decode cX7_takesKey 127 = .ok (.iconst 0, 1) := by decide +kernel
theorem dX7_takesKey_128 : decode cX7_takesKey 128 = .ok (.ireturn, 1) := by decide +kernel
theorem dX7_nameOf_0 : decode cX7_nameOf 0 = .ok (.aload_n 0, 1) := by decide +kernel
theorem dX7_nameOf_1 : decode cX7_nameOf 1 = .ok (.getfield 228, 3) := by decide +kernel
theorem dX7_nameOf_4 : decode cX7_nameOf 4 = .ok (.lookupswitch 82 #[(0, 28), (1, 60)], 28) := by decide +kernel
theorem dX7_nameOf_32 : decode cX7_nameOf 32 = .ok (.iload_n 1, 1) := by decide +kernel
theorem dX7_nameOf_33 : decode cX7_nameOf 33 = .ok (.bipush 102, 2) := by decide +kernel
theorem dX7_nameOf_35 : decode cX7_nameOf 35 = .ok (.if_icmp .ne 7, 3) := by decide +kernel
theorem dX7_nameOf_38 : decode cX7_nameOf 38 = .ok (.iconst 0, 1) := by decide +kernel
theorem dX7_nameOf_39 : decode cX7_nameOf 39 = .ok (.goto 24, 3) := by decide +kernel
theorem dX7_nameOf_42 : decode cX7_nameOf 42 = .ok (.iload_n 1, 1) := by decide +kernel
theorem dX7_nameOf_43 : decode cX7_nameOf 43 = .ok (.bipush 108, 2) := by decide +kernel
theorem dX7_nameOf_45 : decode cX7_nameOf 45 = .ok (.if_icmp .ne 7, 3) := by decide +kernel
theorem dX7_nameOf_48 : decode cX7_nameOf 48 = .ok (.iconst 1, 1) := by decide +kernel
theorem dX7_nameOf_49 : decode cX7_nameOf 49 = .ok (.goto 14, 3) := by decide +kernel
theorem dX7_nameOf_52 : decode cX7_nameOf 52 = .ok (.iload_n 1, 1) := by decide +kernel
theorem dX7_nameOf_53 : decode cX7_nameOf 53 = .ok (.bipush 119, 2) := by decide +kernel
theorem dX7_nameOf_55 : decode cX7_nameOf 55 = .ok (.if_icmp .ne 7, 3) := by decide +kernel
theorem dX7_nameOf_58 : decode cX7_nameOf 58 = .ok (.iconst 2, 1) := by decide +kernel
theorem dX7_nameOf_59 : decode cX7_nameOf 59 = .ok (.goto 4, 3) := by decide +kernel
theorem dX7_nameOf_62 : decode cX7_nameOf 62 = .ok (.iconst (-1), 1) := by decide +kernel
theorem dX7_nameOf_63 : decode cX7_nameOf 63 = .ok (.ireturn, 1) := by decide +kernel
theorem dX7_nameOf_64 : decode cX7_nameOf 64 = .ok (.iload_n 1, 1) := by decide +kernel
theorem dX7_nameOf_65 : decode cX7_nameOf 65 = .ok (.bipush 115, 2) := by decide +kernel
theorem dX7_nameOf_67 : decode cX7_nameOf 67 = .ok (.if_icmp .ne 7, 3) := by decide +kernel
theorem dX7_nameOf_70 : decode cX7_nameOf 70 = .ok (.iconst 0, 1) := by decide +kernel
theorem dX7_nameOf_71 : decode cX7_nameOf 71 = .ok (.goto 14, 3) := by decide +kernel
theorem dX7_nameOf_74 : decode cX7_nameOf 74 = .ok (.iload_n 1, 1) := by decide +kernel
theorem dX7_nameOf_75 : decode cX7_nameOf 75 = .ok (.bipush 104, 2) := by decide +kernel
theorem dX7_nameOf_77 : decode cX7_nameOf 77 = .ok (.if_icmp .ne 7, 3) := by decide +kernel
theorem dX7_nameOf_80 : decode cX7_nameOf 80 = .ok (.iconst 1, 1) := by decide +kernel
theorem dX7_nameOf_81 : decode cX7_nameOf 81 = .ok (.goto 4, 3) := by decide +kernel
theorem dX7_nameOf_84 : decode cX7_nameOf 84 = .ok (.iconst (-1), 1) := by decide +kernel
theorem dX7_nameOf_85 : decode cX7_nameOf 85 = .ok (.ireturn, 1) := by decide +kernel
theorem dX7_nameOf_86 : decode cX7_nameOf 86 = .ok (.iload_n 1, 1) := by decide +kernel
theorem dX7_nameOf_87 : decode cX7_nameOf 87 = .ok (.bipush 119, 2) := by decide +kernel
theorem dX7_nameOf_89 : decode cX7_nameOf 89 = .ok (.if_icmp .ne 7, 3) := by decide +kernel
theorem dX7_nameOf_92 : decode cX7_nameOf 92 = .ok (.iconst 0, 1) := by decide +kernel
theorem dX7_nameOf_93 : decode cX7_nameOf 93 = .ok (.goto 14, 3) := by decide +kernel
theorem dX7_nameOf_96 : decode cX7_nameOf 96 = .ok (.iload_n 1, 1) := by decide +kernel
theorem dX7_nameOf_97 : decode cX7_nameOf 97 = .ok (.bipush 108, 2) := by decide +kernel
theorem dX7_nameOf_99 : decode cX7_nameOf 99 = .ok (.if_icmp .ne 7, 3) := by decide +kernel
theorem dX7_nameOf_102 : decode cX7_nameOf 102 = .ok (.iconst 1, 1) := by decide +kernel
theorem dX7_nameOf_103 : decode cX7_nameOf 103 = .ok (.goto 4, 3) := by decide +kernel
theorem dX7_nameOf_106 : decode cX7_nameOf 106 = .ok (.iconst (-1), 1) := by decide +kernel
theorem dX7_nameOf_107 : decode cX7_nameOf 107 = .ok (.ireturn, 1) := by decide +kernel
theorem dX7_rank_0 : decode cX7_rank 0 = .ok (.iload_n 0, 1) := by decide +kernel
theorem dX7_rank_1 : decode cX7_rank 1 = .ok (.iconst (-1), 1) := by decide +kernel
theorem dX7_rank_2 : decode cX7_rank 2 = .ok (.if_icmp .ne 7, 3) := by decide +kernel
theorem dX7_rank_5 : decode cX7_rank 5 = .ok (.iconst 1, 1) := by decide +kernel
theorem dX7_rank_6 : decode cX7_rank 6 = .ok (.goto 45, 3) := by decide +kernel
theorem dX7_rank_9 : decode cX7_rank 9 = .ok (.iload_n 0, 1) := by decide +kernel
theorem dX7_rank_10 : decode cX7_rank 10 = .ok (.bipush (-2), 2) := by decide +kernel
theorem dX7_rank_12 : decode cX7_rank 12 = .ok (.if_icmp .ne 7, 3) := by decide +kernel
theorem dX7_rank_15 : decode cX7_rank 15 = .ok (.iconst 2, 1) := by decide +kernel
theorem dX7_rank_16 : decode cX7_rank 16 = .ok (.goto 35, 3) := by decide +kernel
theorem dX7_rank_19 : decode cX7_rank 19 = .ok (.iload_n 0, 1) := by decide +kernel
theorem dX7_rank_20 : decode cX7_rank 20 = .ok (.bipush (-5), 2) := by decide +kernel
theorem dX7_rank_22 : decode cX7_rank 22 = .ok (.if_icmp .lt 7, 3) := by decide +kernel
theorem dX7_rank_25 : decode cX7_rank 25 = .ok (.iconst 3, 1) := by decide +kernel
theorem dX7_rank_26 : decode cX7_rank 26 = .ok (.goto 25, 3) := by decide +kernel
theorem dX7_rank_29 : decode cX7_rank 29 = .ok (.iload_n 0, 1) := by decide +kernel
theorem dX7_rank_30 : decode cX7_rank 30 = .ok (.bipush (-7), 2) := by decide +kernel
theorem dX7_rank_32 : decode cX7_rank 32 = .ok (.if_icmp .lt 7, 3) := by decide +kernel
theorem dX7_rank_35 : decode cX7_rank 35 = .ok (.iconst 4, 1) := by decide +kernel
theorem dX7_rank_36 : decode cX7_rank 36 = .ok (.goto 15, 3) := by decide +kernel
theorem dX7_rank_39 : decode cX7_rank 39 = .ok (.iload_n 0, 1) := by decide +kernel
theorem dX7_rank_40 : decode cX7_rank 40 = .ok (.bipush (-9), 2) := by decide +kernel
theorem dX7_rank_42 : decode cX7_rank 42 = .ok (.if_icmp .lt 7, 3) := by decide +kernel
theorem dX7_rank_45 : decode cX7_rank 45 = .ok (.iconst 5, 1) := by decide +kernel
theorem dX7_rank_46 : decode cX7_rank 46 = .ok (.goto 5, 3) := by decide +kernel
theorem dX7_rank_49 : decode cX7_rank 49 = .ok (.bipush 6, 2) := by decide +kernel
theorem dX7_rank_51 : decode cX7_rank 51 = .ok (.ireturn, 1) := by decide +kernel
theorem dX7_settle_0 : decode cX7_settle 0 = .ok (.aload_n 0, 1) := by decide +kernel
theorem dX7_settle_1 : decode cX7_settle 1 = .ok (.getfield 234, 3) := by decide +kernel
theorem dX7_settle_4 : decode cX7_settle 4 = .ok (.ifCond .le 78, 3) := by decide +kernel
theorem dX7_settle_7 : decode cX7_settle 7 = .ok (.aload_n 0, 1) := by decide +kernel
theorem dX7_settle_8 : decode cX7_settle 8 = .ok (.getfield 41, 3) := by decide +kernel
theorem dX7_settle_11 : decode cX7_settle 11 = .ok (.aload_n 0, 1) := by decide +kernel
theorem dX7_settle_12 : decode cX7_settle 12 = .ok (.getfield 234, 3) := by decide +kernel
theorem dX7_settle_15 : decode cX7_settle 15 = .ok (.iconst 1, 1) := by decide +kernel
theorem dX7_settle_16 : decode cX7_settle 16 = .ok (.isub, 1) := by decide +kernel
theorem dX7_settle_17 : decode cX7_settle 17 = .ok (.iaload, 1) := by decide +kernel
theorem dX7_settle_18 : decode cX7_settle 18 = .ok (.bipush (-11), 2) := by decide +kernel
theorem dX7_settle_20 : decode cX7_settle 20 = .ok (.if_icmp .eq 62, 3) := by decide +kernel
theorem dX7_settle_23 : decode cX7_settle 23 = .ok (.aload_n 0, 1) := by decide +kernel
theorem dX7_settle_24 : decode cX7_settle 24 = .ok (.getfield 41, 3) := by decide +kernel
theorem dX7_settle_27 : decode cX7_settle 27 = .ok (.aload_n 0, 1) := by decide +kernel
theorem dX7_settle_28 : decode cX7_settle 28 = .ok (.getfield 234, 3) := by decide +kernel
theorem dX7_settle_31 : decode cX7_settle 31 = .ok (.iconst 1, 1) := by decide +kernel
theorem dX7_settle_32 : decode cX7_settle 32 = .ok (.isub, 1) := by decide +kernel
theorem dX7_settle_33 : decode cX7_settle 33 = .ok (.iaload, 1) := by decide +kernel
theorem dX7_settle_34 : decode cX7_settle 34 = .ok (.invokestatic 237, 3) := by decide +kernel
theorem dX7_settle_37 : decode cX7_settle 37 = .ok (.iload_n 1, 1) := by decide +kernel
theorem dX7_settle_38 : decode cX7_settle 38 = .ok (.if_icmp .lt 44, 3) := by decide +kernel
theorem dX7_settle_41 : decode cX7_settle 41 = .ok (.aload_n 0, 1) := by decide +kernel
theorem dX7_settle_42 : decode cX7_settle 42 = .ok (.dup, 1) := by decide +kernel
theorem dX7_settle_43 : decode cX7_settle 43 = .ok (.getfield 234, 3) := by decide +kernel
theorem dX7_settle_46 : decode cX7_settle 46 = .ok (.iconst 1, 1) := by decide +kernel
theorem dX7_settle_47 : decode cX7_settle 47 = .ok (.isub, 1) := by decide +kernel
theorem dX7_settle_48 : decode cX7_settle 48 = .ok (.putfield 234, 3) := by decide +kernel
theorem dX7_settle_51 : decode cX7_settle 51 = .ok (.aload_n 0, 1) := by decide +kernel
theorem dX7_settle_52 : decode cX7_settle 52 = .ok (.getfield 38, 3) := by decide +kernel
theorem dX7_settle_55 : decode cX7_settle 55 = .ok (.aload_n 0, 1) := by decide +kernel
theorem dX7_settle_56 : decode cX7_settle 56 = .ok (.getfield 240, 3) := by decide +kernel
theorem dX7_settle_59 : decode cX7_settle 59 = .ok (.aload_n 0, 1) := by decide +kernel
theorem dX7_settle_60 : decode cX7_settle 60 = .ok (.getfield 41, 3) := by decide +kernel
theorem dX7_settle_63 : decode cX7_settle 63 = .ok (.aload_n 0, 1) := by decide +kernel
theorem dX7_settle_64 : decode cX7_settle 64 = .ok (.getfield 234, 3) := by decide +kernel
theorem dX7_settle_67 : decode cX7_settle 67 = .ok (.iaload, 1) := by decide +kernel
theorem dX7_settle_68 : decode cX7_settle 68 = .ok (.iastore, 1) := by decide +kernel
theorem dX7_settle_69 : decode cX7_settle 69 = .ok (.aload_n 0, 1) := by decide +kernel
theorem dX7_settle_70 : decode cX7_settle 70 = .ok (.dup, 1) := by decide +kernel
theorem dX7_settle_71 : decode cX7_settle 71 = .ok (.getfield 240, 3) := by decide +kernel
theorem dX7_settle_74 : decode cX7_settle 74 = .ok (.iconst 1, 1) := by decide +kernel
theorem dX7_settle_75 : decode cX7_settle 75 = .ok (.iadd, 1) := by decide +kernel
theorem dX7_settle_76 : decode cX7_settle 76 = .ok (.putfield 240, 3) := by decide +kernel
theorem dX7_settle_79 : decode cX7_settle 79 = .ok (.goto (-79), 3) := by decide +kernel
theorem dX7_settle_82 : decode cX7_settle 82 = .ok (.return_, 1) := by decide +kernel
theorem dX7_signHere_0 : decode cX7_signHere 0 = .ok (.aload_n 0, 1) := by decide +kernel
theorem dX7_signHere_1 : decode cX7_signHere 1 = .ok (.getfield 216, 3) := by decide +kernel
theorem dX7_signHere_4 : decode cX7_signHere 4 = .ok (.iconst 3, 1) := by decide +kernel
theorem dX7_signHere_5 : decode cX7_signHere 5 = .ok (.if_icmp .eq 5, 3) := by decide +kernel
theorem dX7_signHere_8 : decode cX7_signHere 8 = .ok (.iconst 0, 1) := by decide +kernel
theorem dX7_signHere_9 : decode cX7_signHere 9 = .ok (.ireturn, 1) := by decide +kernel
theorem dX7_signHere_10 : decode cX7_signHere 10 = .ok (.aload_n 0, 1) := by decide +kernel
theorem dX7_signHere_11 : decode cX7_signHere 11 = .ok (.getfield 222, 3) := by decide +kernel
theorem dX7_signHere_14 : decode cX7_signHere 14 = .ok (.lookupswitch 108 #[(38, 84), (42, 102), (43, 96), (45, 99), (47, 105), (60, 87), (61, 90), (62, 93), (124, 82)], 82) := by decide +kernel
theorem dX7_signHere_96 : decode cX7_signHere 96 = .ok (.iconst (-1), 1) := by decide +kernel
theorem dX7_signHere_97 : decode cX7_signHere 97 = .ok (.ireturn, 1) := by decide +kernel
theorem dX7_signHere_98 : decode cX7_signHere 98 = .ok (.bipush (-2), 2) := by decide +kernel
theorem dX7_signHere_100 : decode cX7_signHere 100 = .ok (.ireturn, 1) := by decide +kernel
theorem dX7_signHere_101 : decode cX7_signHere 101 = .ok (.bipush (-3), 2) := by decide +kernel
theorem dX7_signHere_103 : decode cX7_signHere 103 = .ok (.ireturn, 1) := by decide +kernel
theorem dX7_signHere_104 : decode cX7_signHere 104 = .ok (.bipush (-4), 2) := by decide +kernel
theorem dX7_signHere_106 : decode cX7_signHere 106 = .ok (.ireturn, 1) := by decide +kernel
theorem dX7_signHere_107 : decode cX7_signHere 107 = .ok (.bipush (-5), 2) := by decide +kernel
theorem dX7_signHere_109 : decode cX7_signHere 109 = .ok (.ireturn, 1) := by decide +kernel
theorem dX7_signHere_110 : decode cX7_signHere 110 = .ok (.bipush (-6), 2) := by decide +kernel
theorem dX7_signHere_112 : decode cX7_signHere 112 = .ok (.ireturn, 1) := by decide +kernel
theorem dX7_signHere_113 : decode cX7_signHere 113 = .ok (.bipush (-7), 2) := by decide +kernel
theorem dX7_signHere_115 : decode cX7_signHere 115 = .ok (.ireturn, 1) := by decide +kernel
theorem dX7_signHere_116 : decode cX7_signHere 116 = .ok (.bipush (-8), 2) := by decide +kernel
theorem dX7_signHere_118 : decode cX7_signHere 118 = .ok (.ireturn, 1) := by decide +kernel
theorem dX7_signHere_119 : decode cX7_signHere 119 = .ok (.bipush (-9), 2) := by decide +kernel
theorem dX7_signHere_121 : decode cX7_signHere 121 = .ok (.ireturn, 1) := by decide +kernel
theorem dX7_signHere_122 : decode cX7_signHere 122 = .ok (.iconst 0, 1) := by decide +kernel
theorem dX7_signHere_123 : decode cX7_signHere 123 = .ok (.ireturn, 1) := by decide +kernel
theorem dX7_takesPart_0 : decode cX7_takesPart 0 = .ok (.aload_n 0, 1) := by decide +kernel
theorem dX7_takesPart_1 : decode cX7_takesPart 1 = .ok (.getfield 216, 3) := by decide +kernel
theorem dX7_takesPart_4 : decode cX7_takesPart 4 = .ok (.iconst 1, 1) := by decide +kernel
theorem dX7_takesPart_5 : decode cX7_takesPart 5 = .ok (.if_icmp .ne 31, 3) := by decide +kernel
theorem dX7_takesPart_8 : decode cX7_takesPart 8 = .ok (.aload_n 0, 1) := by decide +kernel
theorem dX7_takesPart_9 : decode cX7_takesPart 9 = .ok (.getfield 207, 3) := by decide +kernel
theorem dX7_takesPart_12 : decode cX7_takesPart 12 = .ok (.aload_n 0, 1) := by decide +kernel
theorem dX7_takesPart_13 : decode cX7_takesPart 13 = .ok (.getfield 210, 3) := by decide +kernel
theorem dX7_takesPart_16 : decode cX7_takesPart 16 = .ok (.isub, 1) := by decide +kernel
theorem dX7_takesPart_17 : decode cX7_takesPart 17 = .ok (.iconst 1, 1) := by decide +kernel
theorem dX7_takesPart_18 : decode cX7_takesPart 18 = .ok (.if_icmp .ne 18, 3) := by decide +kernel
theorem dX7_takesPart_21 : decode cX7_takesPart 21 = .ok (.aload_n 0, 1) := by decide +kernel
theorem dX7_takesPart_22 : decode cX7_takesPart 22 = .ok (.aload_n 0, 1) := by decide +kernel
theorem dX7_takesPart_23 : decode cX7_takesPart 23 = .ok (.getfield 222, 3) := by decide +kernel
theorem dX7_takesPart_26 : decode cX7_takesPart 26 = .ok (.invokevirtual 243, 3) := by decide +kernel
theorem dX7_takesPart_29 : decode cX7_takesPart 29 = .ok (.ifCond .lt 7, 3) := by decide +kernel
theorem dX7_takesPart_32 : decode cX7_takesPart 32 = .ok (.iconst 1, 1) := by decide +kernel
theorem dX7_takesPart_33 : decode cX7_takesPart 33 = .ok (.goto 4, 3) := by decide +kernel
theorem dX7_takesPart_36 : decode cX7_takesPart 36 = .ok (.iconst 0, 1) := by decide +kernel
theorem dX7_takesPart_37 : decode cX7_takesPart 37 = .ok (.istore_n 1, 1) := by decide +kernel
theorem dX7_takesPart_38 : decode cX7_takesPart 38 = .ok (.aload_n 0, 1) := by decide +kernel
theorem dX7_takesPart_39 : decode cX7_takesPart 39 = .ok (.getfield 216, 3) := by decide +kernel
theorem dX7_takesPart_42 : decode cX7_takesPart 42 = .ok (.iconst 2, 1) := by decide +kernel
theorem dX7_takesPart_43 : decode cX7_takesPart 43 = .ok (.if_icmp .eq 9, 3) := by decide +kernel
theorem dX7_takesPart_46 : decode cX7_takesPart 46 = .ok (.iload_n 1, 1) := by decide +kernel
theorem dX7_takesPart_47 : decode cX7_takesPart 47 = .ok (.ifCond .ne 5, 3) := by decide +kernel
theorem dX7_takesPart_50 : decode cX7_takesPart 50 = .ok (.iconst 0, 1) := by decide +kernel
theorem dX7_takesPart_51 : decode cX7_takesPart 51 = .ok (.ireturn, 1) := by decide +kernel
theorem dX7_takesPart_52 : decode cX7_takesPart 52 = .ok (.aload_n 0, 1) := by decide +kernel
theorem dX7_takesPart_53 : decode cX7_takesPart 53 = .ok (.getfield 38, 3) := by decide +kernel
theorem dX7_takesPart_56 : decode cX7_takesPart 56 = .ok (.aload_n 0, 1) := by decide +kernel
theorem dX7_takesPart_57 : decode cX7_takesPart 57 = .ok (.getfield 240, 3) := by decide +kernel
theorem dX7_takesPart_60 : decode cX7_takesPart 60 = .ok (.aload_n 0, 1) := by decide +kernel
theorem dX7_takesPart_61 : decode cX7_takesPart 61 = .ok (.getfield 216, 3) := by decide +kernel
theorem dX7_takesPart_64 : decode cX7_takesPart 64 = .ok (.iconst 2, 1) := by decide +kernel
theorem dX7_takesPart_65 : decode cX7_takesPart 65 = .ok (.if_icmp .ne 10, 3) := by decide +kernel
theorem dX7_takesPart_68 : decode cX7_takesPart 68 = .ok (.aload_n 0, 1) := by decide +kernel
theorem dX7_takesPart_69 : decode cX7_takesPart 69 = .ok (.getfield 222, 3) := by decide +kernel
theorem dX7_takesPart_72 : decode cX7_takesPart 72 = .ok (.goto 15, 3) := by decide +kernel
theorem dX7_takesPart_75 : decode cX7_takesPart 75 = .ok (.sipush 10000, 3) := by decide +kernel
theorem dX7_takesPart_78 : decode cX7_takesPart 78 = .ok (.aload_n 0, 1) := by decide +kernel
theorem dX7_takesPart_79 : decode cX7_takesPart 79 = .ok (.aload_n 0, 1) := by decide +kernel
theorem dX7_takesPart_80 : decode cX7_takesPart 80 = .ok (.getfield 222, 3) := by decide +kernel
theorem dX7_takesPart_83 : decode cX7_takesPart 83 = .ok (.invokevirtual 243, 3) := by decide +kernel
theorem dX7_takesPart_86 : decode cX7_takesPart 86 = .ok (.iadd, 1) := by decide +kernel
theorem dX7_takesPart_87 : decode cX7_takesPart 87 = .ok (.iastore, 1) := by decide +kernel
theorem dX7_takesPart_88 : decode cX7_takesPart 88 = .ok (.aload_n 0, 1) := by decide +kernel
theorem dX7_takesPart_89 : decode cX7_takesPart 89 = .ok (.dup, 1) := by decide +kernel
theorem dX7_takesPart_90 : decode cX7_takesPart 90 = .ok (.getfield 240, 3) := by decide +kernel
theorem dX7_takesPart_93 : decode cX7_takesPart 93 = .ok (.iconst 1, 1) := by decide +kernel
theorem dX7_takesPart_94 : decode cX7_takesPart 94 = .ok (.iadd, 1) := by decide +kernel
theorem dX7_takesPart_95 : decode cX7_takesPart 95 = .ok (.putfield 240, 3) := by decide +kernel
theorem dX7_takesPart_98 : decode cX7_takesPart 98 = .ok (.aload_n 0, 1) := by decide +kernel
theorem dX7_takesPart_99 : decode cX7_takesPart 99 = .ok (.dup, 1) := by decide +kernel
theorem dX7_takesPart_100 : decode cX7_takesPart 100 = .ok (.getfield 246, 3) := by decide +kernel
theorem dX7_takesPart_103 : decode cX7_takesPart 103 = .ok (.iconst 1, 1) := by decide +kernel
theorem dX7_takesPart_104 : decode cX7_takesPart 104 = .ok (.iadd, 1) := by decide +kernel
theorem dX7_takesPart_105 : decode cX7_takesPart 105 = .ok (.putfield 246, 3) := by decide +kernel
theorem dX7_takesPart_108 : decode cX7_takesPart 108 = .ok (.aload_n 0, 1) := by decide +kernel
theorem dX7_takesPart_109 : decode cX7_takesPart 109 = .ok (.bipush 6, 2) := by decide +kernel
theorem dX7_takesPart_111 : decode cX7_takesPart 111 = .ok (.invokevirtual 249, 3) := by decide +kernel
theorem dX7_takesPart_114 : decode cX7_takesPart 114 = .ok (.aload_n 0, 1) := by decide +kernel
theorem dX7_takesPart_115 : decode cX7_takesPart 115 = .ok (.invokevirtual 231, 3) := by decide +kernel
theorem dX7_takesPart_118 : decode cX7_takesPart 118 = .ok (.iconst 1, 1) := by decide +kernel
theorem dX7_takesPart_119 : decode cX7_takesPart 119 = .ok (.ireturn, 1) := by decide +kernel
theorem dX7_takesE_0 : decode cX7_takesE 0 = .ok (.iconst 0, 1) := by decide +kernel
theorem dX7_takesE_1 : decode cX7_takesE 1 = .ok (.istore_n 1, 1) := by decide +kernel
theorem dX7_takesE_2 : decode cX7_takesE 2 = .ok (.iconst 0, 1) := by decide +kernel
theorem dX7_takesE_3 : decode cX7_takesE 3 = .ok (.istore_n 2, 1) := by decide +kernel
theorem dX7_takesE_4 : decode cX7_takesE 4 = .ok (.iconst 1, 1) := by decide +kernel
theorem dX7_takesE_5 : decode cX7_takesE 5 = .ok (.istore_n 3, 1) := by decide +kernel
theorem dX7_takesE_6 : decode cX7_takesE 6 = .ok (.aload_n 0, 1) := by decide +kernel
theorem dX7_takesE_7 : decode cX7_takesE 7 = .ok (.iconst 0, 1) := by decide +kernel
theorem dX7_takesE_8 : decode cX7_takesE 8 = .ok (.putfield 240, 3) := by decide +kernel
theorem dX7_takesE_11 : decode cX7_takesE 11 = .ok (.aload_n 0, 1) := by decide +kernel
theorem dX7_takesE_12 : decode cX7_takesE 12 = .ok (.iconst 0, 1) := by decide +kernel
theorem dX7_takesE_13 : decode cX7_takesE 13 = .ok (.putfield 246, 3) := by decide +kernel
theorem dX7_takesE_16 : decode cX7_takesE 16 = .ok (.aload_n 0, 1) := by decide +kernel
theorem dX7_takesE_17 : decode cX7_takesE 17 = .ok (.iconst 0, 1) := by decide +kernel
theorem dX7_takesE_18 : decode cX7_takesE 18 = .ok (.putfield 234, 3) := by decide +kernel
theorem dX7_takesE_21 : decode cX7_takesE 21 = .ok (.aload_n 0, 1) := by decide +kernel
theorem dX7_takesE_22 : decode cX7_takesE 22 = .ok (.getfield 44, 3) := by decide +kernel
theorem dX7_takesE_25 : decode cX7_takesE 25 = .ok (.iconst 0, 1) := by decide +kernel
theorem dX7_takesE_26 : decode cX7_takesE 26 = .ok (.iconst 0, 1) := by decide +kernel
theorem dX7_takesE_27 : decode cX7_takesE 27 = .ok (.bastore, 1) := by decide +kernel
theorem dX7_takesE_28 : decode cX7_takesE 28 = .ok (.iload_n 3, 1) := by decide +kernel
theorem dX7_takesE_29 : decode cX7_takesE 29 = .ok (.ifCond .ne 10, 3) := by decide +kernel
theorem dX7_takesE_32 : decode cX7_takesE 32 = .ok (.aload_n 0, 1) := by decide +kernel
theorem dX7_takesE_33 : decode cX7_takesE 33 = .ok (.getfield 216, 3) := by decide +kernel
theorem dX7_takesE_36 : decode cX7_takesE 36 = .ok (.ifCond .eq 309, 3) := by decide +kernel
theorem dX7_takesE_39 : decode cX7_takesE 39 = .ok (.iload_n 3, 1) := by decide +kernel
theorem dX7_takesE_40 : decode cX7_takesE 40 = .ok (.ifCond .eq 140, 3) := by decide +kernel
theorem dX7_takesE_43 : decode cX7_takesE 43 = .ok (.aload_n 0, 1) := by decide +kernel
theorem dX7_takesE_44 : decode cX7_takesE 44 = .ok (.getfield 216, 3) := by decide +kernel
theorem dX7_takesE_47 : decode cX7_takesE 47 = .ok (.iconst 3, 1) := by decide +kernel
theorem dX7_takesE_48 : decode cX7_takesE 48 = .ok (.if_icmp .ne 49, 3) := by decide +kernel
theorem dX7_takesE_51 : decode cX7_takesE 51 = .ok (.aload_n 0, 1) := by decide +kernel
theorem dX7_takesE_52 : decode cX7_takesE 52 = .ok (.getfield 222, 3) := by decide +kernel
theorem dX7_takesE_55 : decode cX7_takesE 55 = .ok (.bipush 33, 2) := by decide +kernel
theorem dX7_takesE_57 : decode cX7_takesE 57 = .ok (.if_icmp .ne 40, 3) := by decide +kernel
theorem dX7_takesE_60 : decode cX7_takesE 60 = .ok (.iload_n 2, 1) := by decide +kernel
theorem dX7_takesE_61 : decode cX7_takesE 61 = .ok (.bipush 8, 2) := by decide +kernel
theorem dX7_takesE_63 : decode cX7_takesE 63 = .ok (.if_icmp .ge 34, 3) := by decide +kernel
theorem dX7_takesE_66 : decode cX7_takesE 66 = .ok (.aload_n 0, 1) := by decide +kernel
theorem dX7_takesE_67 : decode cX7_takesE 67 = .ok (.getfield 41, 3) := by decide +kernel
theorem dX7_takesE_70 : decode cX7_takesE 70 = .ok (.aload_n 0, 1) := by decide +kernel
theorem dX7_takesE_71 : decode cX7_takesE 71 = .ok (.getfield 234, 3) := by decide +kernel
theorem dX7_takesE_74 : decode cX7_takesE 74 = .ok (.bipush (-10), 2) := by decide +kernel
theorem dX7_takesE_76 : decode cX7_takesE 76 = .ok (.iastore, 1) := by decide +kernel
theorem dX7_takesE_77 : decode cX7_takesE 77 = .ok (.aload_n 0, 1) := by decide +kernel
theorem dX7_takesE_78 : decode cX7_takesE 78 = .ok (.dup, 1) := by decide +kernel
theorem dX7_takesE_79 : decode cX7_takesE 79 = .ok (.getfield 234, 3) := by decide +kernel
theorem dX7_takesE_82 : decode cX7_takesE 82 = .ok (.iconst 1, 1) := by decide +kernel
theorem dX7_takesE_83 : decode cX7_takesE 83 = .ok (.iadd, 1) := by decide +kernel
theorem dX7_takesE_84 : decode cX7_takesE 84 = .ok (.putfield 234, 3) := by decide +kernel
theorem dX7_takesE_87 : decode cX7_takesE 87 = .ok (.iinc 2 1, 3) := by decide +kernel
theorem dX7_takesE_90 : decode cX7_takesE 90 = .ok (.aload_n 0, 1) := by decide +kernel
theorem dX7_takesE_91 : decode cX7_takesE 91 = .ok (.invokevirtual 231, 3) := by decide +kernel
theorem dX7_takesE_94 : decode cX7_takesE 94 = .ok (.goto 78, 3) := by decide +kernel
theorem dX7_takesE_97 : decode cX7_takesE 97 = .ok (.aload_n 0, 1) := by decide +kernel
theorem dX7_takesE_98 : decode cX7_takesE 98 = .ok (.getfield 216, 3) := by decide +kernel
theorem dX7_takesE_101 : decode cX7_takesE 101 = .ok (.iconst 3, 1) := by decide +kernel
theorem dX7_takesE_102 : decode cX7_takesE 102 = .ok (.if_icmp .ne 56, 3) := by decide +kernel
theorem dX7_takesE_105 : decode cX7_takesE 105 = .ok (.aload_n 0, 1) := by decide +kernel
theorem dX7_takesE_106 : decode cX7_takesE 106 = .ok (.getfield 222, 3) := by decide +kernel
theorem dX7_takesE_109 : decode cX7_takesE 109 = .ok (.bipush 40, 2) := by decide +kernel
theorem dX7_takesE_111 : decode cX7_takesE 111 = .ok (.if_icmp .ne 47, 3) := by decide +kernel
theorem dX7_takesE_114 : decode cX7_takesE 114 = .ok (.iload_n 1, 1) := by decide +kernel
theorem dX7_takesE_115 : decode cX7_takesE 115 = .ok (.bipush 8, 2) := by decide +kernel
theorem dX7_takesE_117 : decode cX7_takesE 117 = .ok (.if_icmp .ge 41, 3) := by decide +kernel
theorem dX7_takesE_120 : decode cX7_takesE 120 = .ok (.aload_n 0, 1) := by decide +kernel
theorem dX7_takesE_121 : decode cX7_takesE 121 = .ok (.getfield 41, 3) := by decide +kernel
theorem dX7_takesE_124 : decode cX7_takesE 124 = .ok (.aload_n 0, 1) := by decide +kernel
theorem dX7_takesE_125 : decode cX7_takesE 125 = .ok (.getfield 234, 3) := by decide +kernel
theorem dX7_takesE_128 : decode cX7_takesE 128 = .ok (.bipush (-11), 2) := by decide +kernel
theorem dX7_takesE_130 : decode cX7_takesE 130 = .ok (.iastore, 1) := by decide +kernel
theorem dX7_takesE_131 : decode cX7_takesE 131 = .ok (.aload_n 0, 1) := by decide +kernel
theorem dX7_takesE_132 : decode cX7_takesE 132 = .ok (.dup, 1) := by decide +kernel
theorem dX7_takesE_133 : decode cX7_takesE 133 = .ok (.getfield 234, 3) := by decide +kernel
theorem dX7_takesE_136 : decode cX7_takesE 136 = .ok (.iconst 1, 1) := by decide +kernel
theorem dX7_takesE_137 : decode cX7_takesE 137 = .ok (.iadd, 1) := by decide +kernel
theorem dX7_takesE_138 : decode cX7_takesE 138 = .ok (.putfield 234, 3) := by decide +kernel
theorem dX7_takesE_141 : decode cX7_takesE 141 = .ok (.iinc 1 1, 3) := by decide +kernel
theorem dX7_takesE_144 : decode cX7_takesE 144 = .ok (.aload_n 0, 1) := by decide +kernel
theorem dX7_takesE_145 : decode cX7_takesE 145 = .ok (.getfield 44, 3) := by decide +kernel
theorem dX7_takesE_148 : decode cX7_takesE 148 = .ok (.iload_n 1, 1) := by decide +kernel
theorem dX7_takesE_149 : decode cX7_takesE 149 = .ok (.iconst 0, 1) := by decide +kernel
theorem dX7_takesE_150 : decode cX7_takesE 150 = .ok (.bastore, 1) := by decide +kernel
theorem dX7_takesE_151 : decode cX7_takesE 151 = .ok (.aload_n 0, 1) := by decide +kernel
theorem dX7_takesE_152 : decode cX7_takesE 152 = .ok (.invokevirtual 231, 3) := by decide +kernel
theorem dX7_takesE_155 : decode cX7_takesE 155 = .ok (.goto 17, 3) := by decide +kernel
theorem dX7_takesE_158 : decode cX7_takesE 158 = .ok (.aload_n 0, 1) := by decide +kernel
theorem dX7_takesE_159 : decode cX7_takesE 159 = .ok (.invokevirtual 252, 3) := by decide +kernel
theorem dX7_takesE_162 : decode cX7_takesE 162 = .ok (.ifCond .eq 8, 3) := by decide +kernel
theorem dX7_takesE_165 : decode cX7_takesE 165 = .ok (.iconst 0, 1) := by decide +kernel
theorem dX7_takesE_166 : decode cX7_takesE 166 = .ok (.istore_n 3, 1) := by decide +kernel
theorem dX7_takesE_167 : decode cX7_takesE 167 = .ok (.goto 5, 3) := by decide +kernel
theorem dX7_takesE_170 : decode cX7_takesE 170 = .ok (.iconst 0, 1) := by decide +kernel
theorem dX7_takesE_171 : decode cX7_takesE 171 = .ok (.ireturn, 1) := by decide +kernel
theorem dX7_takesE_172 : decode cX7_takesE 172 = .ok (.aload_n 0, 1) := by decide +kernel
theorem dX7_takesE_173 : decode cX7_takesE 173 = .ok (.invokevirtual 256, 3) := by decide +kernel
theorem dX7_takesE_176 : decode cX7_takesE 176 = .ok (.istore_n 2, 1) := by decide +kernel
theorem dX7_takesE_177 : decode cX7_takesE 177 = .ok (.goto (-149), 3) := by decide +kernel
theorem dX7_takesE_180 : decode cX7_takesE 180 = .ok (.aload_n 0, 1) := by decide +kernel
theorem dX7_takesE_181 : decode cX7_takesE 181 = .ok (.getfield 216, 3) := by decide +kernel
theorem dX7_takesE_184 : decode cX7_takesE 184 = .ok (.iconst 3, 1) := by decide +kernel
theorem dX7_takesE_185 : decode cX7_takesE 185 = .ok (.if_icmp .ne 52, 3) := by decide +kernel
theorem dX7_takesE_188 : decode cX7_takesE 188 = .ok (.aload_n 0, 1) := by decide +kernel
theorem dX7_takesE_189 : decode cX7_takesE 189 = .ok (.getfield 222, 3) := by decide +kernel
theorem dX7_takesE_192 : decode cX7_takesE 192 = .ok (.bipush 41, 2) := by decide +kernel
theorem dX7_takesE_194 : decode cX7_takesE 194 = .ok (.if_icmp .ne 43, 3) := by decide +kernel
theorem dX7_takesE_197 : decode cX7_takesE 197 = .ok (.iload_n 1, 1) := by decide +kernel
theorem dX7_takesE_198 : decode cX7_takesE 198 = .ok (.ifCond .le 39, 3) := by decide +kernel
theorem dX7_takesE_201 : decode cX7_takesE 201 = .ok (.aload_n 0, 1) := by decide +kernel
theorem dX7_takesE_202 : decode cX7_takesE 202 = .ok (.iconst 0, 1) := by decide +kernel
theorem dX7_takesE_203 : decode cX7_takesE 203 = .ok (.invokevirtual 249, 3) := by decide +kernel
theorem dX7_takesE_206 : decode cX7_takesE 206 = .ok (.aload_n 0, 1) := by decide +kernel
theorem dX7_takesE_207 : decode cX7_takesE 207 = .ok (.dup, 1) := by decide +kernel
theorem dX7_takesE_208 : decode cX7_takesE 208 = .ok (.getfield 234, 3) := by decide +kernel
theorem dX7_takesE_211 : decode cX7_takesE 211 = .ok (.iconst 1, 1) := by decide +kernel
theorem dX7_takesE_212 : decode cX7_takesE 212 = .ok (.isub, 1) := by decide +kernel
theorem dX7_takesE_213 : decode cX7_takesE 213 = .ok (.putfield 234, 3) := by decide +kernel
theorem dX7_takesE_216 : decode cX7_takesE 216 = .ok (.iinc 1 (-1), 3) := by decide +kernel
theorem dX7_takesE_219 : decode cX7_takesE 219 = .ok (.aload_n 0, 1) := by decide +kernel
theorem dX7_takesE_220 : decode cX7_takesE 220 = .ok (.bipush 6, 2) := by decide +kernel
theorem dX7_takesE_222 : decode cX7_takesE 222 = .ok (.invokevirtual 249, 3) := by decide +kernel
theorem dX7_takesE_225 : decode cX7_takesE 225 = .ok (.aload_n 0, 1) := by decide +kernel
theorem dX7_takesE_226 : decode cX7_takesE 226 = .ok (.invokevirtual 256, 3) := by decide +kernel
theorem dX7_takesE_229 : decode cX7_takesE 229 = .ok (.istore_n 2, 1) := by decide +kernel
theorem dX7_takesE_230 : decode cX7_takesE 230 = .ok (.aload_n 0, 1) := by decide +kernel
theorem dX7_takesE_231 : decode cX7_takesE 231 = .ok (.invokevirtual 231, 3) := by decide +kernel
theorem dX7_takesE_234 : decode cX7_takesE 234 = .ok (.goto (-206), 3) := by decide +kernel
theorem dX7_takesE_237 : decode cX7_takesE 237 = .ok (.aload_n 0, 1) := by decide +kernel
theorem dX7_takesE_238 : decode cX7_takesE 238 = .ok (.invokevirtual 259, 3) := by decide +kernel
theorem dX7_takesE_241 : decode cX7_takesE 241 = .ok (.istore 4, 2) := by decide +kernel
theorem dX7_takesE_243 : decode cX7_takesE 243 = .ok (.iload 4, 2) := by decide +kernel
theorem dX7_takesE_245 : decode cX7_takesE 245 = .ok (.ifCond .eq 21, 3) := by decide +kernel
theorem dX7_takesE_248 : decode cX7_takesE 248 = .ok (.iload 4, 2) := by decide +kernel
theorem dX7_takesE_250 : decode cX7_takesE 250 = .ok (.invokestatic 237, 3) := by decide +kernel
theorem dX7_takesE_253 : decode cX7_takesE 253 = .ok (.iconst 3, 1) := by decide +kernel
theorem dX7_takesE_254 : decode cX7_takesE 254 = .ok (.if_icmp .ne 14, 3) := by decide +kernel
theorem dX7_takesE_257 : decode cX7_takesE 257 = .ok (.aload_n 0, 1) := by decide +kernel
theorem dX7_takesE_258 : decode cX7_takesE 258 = .ok (.getfield 44, 3) := by decide +kernel
theorem dX7_takesE_261 : decode cX7_takesE 261 = .ok (.iload_n 1, 1) := by decide +kernel
theorem dX7_takesE_262 : decode cX7_takesE 262 = .ok (.baload, 1) := by decide +kernel
theorem dX7_takesE_263 : decode cX7_takesE 263 = .ok (.ifCond .eq 5, 3) := by decide +kernel
theorem dX7_takesE_266 : decode cX7_takesE 266 = .ok (.iconst 0, 1) := by decide +kernel
theorem dX7_takesE_267 : decode cX7_takesE 267 = .ok (.ireturn, 1) := by decide +kernel
theorem dX7_takesE_268 : decode cX7_takesE 268 = .ok (.aload_n 0, 1) := by decide +kernel
theorem dX7_takesE_269 : decode cX7_takesE 269 = .ok (.getfield 44, 3) := by decide +kernel
theorem dX7_takesE_272 : decode cX7_takesE 272 = .ok (.iload_n 1, 1) := by decide +kernel
theorem dX7_takesE_273 : decode cX7_takesE 273 = .ok (.iload 4, 2) := by decide +kernel
theorem dX7_takesE_275 : decode cX7_takesE 275 = .ok (.invokestatic 237, 3) := by decide +kernel
theorem dX7_takesE_278 : decode cX7_takesE 278 = .ok (.iconst 3, 1) := by decide +kernel
theorem dX7_takesE_279 : decode cX7_takesE 279 = .ok (.if_icmp .eq 21, 3) := by decide +kernel
theorem dX7_takesE_282 : decode cX7_takesE 282 = .ok (.iload 4, 2) := by decide +kernel
theorem dX7_takesE_284 : decode cX7_takesE 284 = .ok (.invokestatic 237, 3) := by decide +kernel
theorem dX7_takesE_287 : decode cX7_takesE 287 = .ok (.iconst 3, 1) := by decide +kernel
theorem dX7_takesE_288 : decode cX7_takesE 288 = .ok (.if_icmp .le 16, 3) := by decide +kernel
theorem dX7_takesE_291 : decode cX7_takesE 291 = .ok (.aload_n 0, 1) := by decide +kernel
theorem dX7_takesE_292 : decode cX7_takesE 292 = .ok (.getfield 44, 3) := by decide +kernel
theorem dX7_takesE_295 : decode cX7_takesE 295 = .ok (.iload_n 1, 1) := by decide +kernel
theorem dX7_takesE_296 : decode cX7_takesE 296 = .ok (.baload, 1) := by decide +kernel
theorem dX7_takesE_297 : decode cX7_takesE 297 = .ok (.ifCond .eq 7, 3) := by decide +kernel
theorem dX7_takesE_300 : decode cX7_takesE 300 = .ok (.iconst 1, 1) := by decide +kernel
theorem dX7_takesE_301 : decode cX7_takesE 301 = .ok (.goto 4, 3) := by decide +kernel
theorem dX7_takesE_304 : decode cX7_takesE 304 = .ok (.iconst 0, 1) := by decide +kernel
theorem dX7_takesE_305 : decode cX7_takesE 305 = .ok (.bastore, 1) := by decide +kernel
theorem dX7_takesE_306 : decode cX7_takesE 306 = .ok (.aload_n 0, 1) := by decide +kernel
theorem dX7_takesE_307 : decode cX7_takesE 307 = .ok (.iload 4, 2) := by decide +kernel
theorem dX7_takesE_309 : decode cX7_takesE 309 = .ok (.invokestatic 237, 3) := by decide +kernel
theorem dX7_takesE_312 : decode cX7_takesE 312 = .ok (.invokevirtual 249, 3) := by decide +kernel
theorem dX7_takesE_315 : decode cX7_takesE 315 = .ok (.aload_n 0, 1) := by decide +kernel
theorem dX7_takesE_316 : decode cX7_takesE 316 = .ok (.getfield 41, 3) := by decide +kernel
theorem dX7_takesE_319 : decode cX7_takesE 319 = .ok (.aload_n 0, 1) := by decide +kernel
theorem dX7_takesE_320 : decode cX7_takesE 320 = .ok (.getfield 234, 3) := by decide +kernel
theorem dX7_takesE_323 : decode cX7_takesE 323 = .ok (.iload 4, 2) := by decide +kernel
theorem dX7_takesE_325 : decode cX7_takesE 325 = .ok (.iastore, 1) := by decide +kernel
theorem dX7_takesE_326 : decode cX7_takesE 326 = .ok (.aload_n 0, 1) := by decide +kernel
theorem dX7_takesE_327 : decode cX7_takesE 327 = .ok (.dup, 1) := by decide +kernel
theorem dX7_takesE_328 : decode cX7_takesE 328 = .ok (.getfield 234, 3) := by decide +kernel
theorem dX7_takesE_331 : decode cX7_takesE 331 = .ok (.iconst 1, 1) := by decide +kernel
theorem dX7_takesE_332 : decode cX7_takesE 332 = .ok (.iadd, 1) := by decide +kernel
theorem dX7_takesE_333 : decode cX7_takesE 333 = .ok (.putfield 234, 3) := by decide +kernel
theorem dX7_takesE_336 : decode cX7_takesE 336 = .ok (.iconst 1, 1) := by decide +kernel
theorem dX7_takesE_337 : decode cX7_takesE 337 = .ok (.istore_n 3, 1) := by decide +kernel
theorem dX7_takesE_338 : decode cX7_takesE 338 = .ok (.aload_n 0, 1) := by decide +kernel
theorem dX7_takesE_339 : decode cX7_takesE 339 = .ok (.invokevirtual 231, 3) := by decide +kernel
theorem dX7_takesE_342 : decode cX7_takesE 342 = .ok (.goto (-314), 3) := by decide +kernel
theorem dX7_takesE_345 : decode cX7_takesE 345 = .ok (.aload_n 0, 1) := by decide +kernel
theorem dX7_takesE_346 : decode cX7_takesE 346 = .ok (.iconst 0, 1) := by decide +kernel
theorem dX7_takesE_347 : decode cX7_takesE 347 = .ok (.invokevirtual 249, 3) := by decide +kernel
theorem dX7_takesE_350 : decode cX7_takesE 350 = .ok (.iload_n 1, 1) := by decide +kernel
theorem dX7_takesE_351 : decode cX7_takesE 351 = .ok (.ifCond .ne 7, 3) := by decide +kernel
theorem dX7_takesE_354 : decode cX7_takesE 354 = .ok (.iconst 1, 1) := by decide +kernel
theorem dX7_takesE_355 : decode cX7_takesE 355 = .ok (.goto 4, 3) := by decide +kernel
theorem dX7_takesE_358 : decode cX7_takesE 358 = .ok (.iconst 0, 1) := by decide +kernel
theorem dX7_takesE_359 : decode cX7_takesE 359 = .ok (.ireturn, 1) := by decide +kernel
theorem dX7_notsOpen_0 : decode cX7_notsOpen 0 = .ok (.iconst 0, 1) := by decide +kernel
theorem dX7_notsOpen_1 : decode cX7_notsOpen 1 = .ok (.istore_n 1, 1) := by decide +kernel
theorem dX7_notsOpen_2 : decode cX7_notsOpen 2 = .ok (.iconst 0, 1) := by decide +kernel
theorem dX7_notsOpen_3 : decode cX7_notsOpen 3 = .ok (.istore_n 2, 1) := by decide +kernel
theorem dX7_notsOpen_4 : decode cX7_notsOpen 4 = .ok (.iload_n 2, 1) := by decide +kernel
theorem dX7_notsOpen_5 : decode cX7_notsOpen 5 = .ok (.aload_n 0, 1) := by decide +kernel
theorem dX7_notsOpen_6 : decode cX7_notsOpen 6 = .ok (.getfield 234, 3) := by decide +kernel
theorem dX7_notsOpen_9 : decode cX7_notsOpen 9 = .ok (.if_icmp .ge 28, 3) := by decide +kernel
theorem dX7_notsOpen_12 : decode cX7_notsOpen 12 = .ok (.iload_n 1, 1) := by decide +kernel
theorem dX7_notsOpen_13 : decode cX7_notsOpen 13 = .ok (.aload_n 0, 1) := by decide +kernel
theorem dX7_notsOpen_14 : decode cX7_notsOpen 14 = .ok (.getfield 41, 3) := by decide +kernel
theorem dX7_notsOpen_17 : decode cX7_notsOpen 17 = .ok (.iload_n 2, 1) := by decide +kernel
theorem dX7_notsOpen_18 : decode cX7_notsOpen 18 = .ok (.iaload, 1) := by decide +kernel
theorem dX7_notsOpen_19 : decode cX7_notsOpen 19 = .ok (.bipush (-10), 2) := by decide +kernel
theorem dX7_notsOpen_21 : decode cX7_notsOpen 21 = .ok (.if_icmp .ne 7, 3) := by decide +kernel
theorem dX7_notsOpen_24 : decode cX7_notsOpen 24 = .ok (.iconst 1, 1) := by decide +kernel
theorem dX7_notsOpen_25 : decode cX7_notsOpen 25 = .ok (.goto 4, 3) := by decide +kernel
theorem dX7_notsOpen_28 : decode cX7_notsOpen 28 = .ok (.iconst 0, 1) := by decide +kernel
theorem dX7_notsOpen_29 : decode cX7_notsOpen 29 = .ok (.iadd, 1) := by decide +kernel
theorem dX7_notsOpen_30 : decode cX7_notsOpen 30 = .ok (.istore_n 1, 1) := by decide +kernel
theorem dX7_notsOpen_31 : decode cX7_notsOpen 31 = .ok (.iinc 2 1, 3) := by decide +kernel
theorem dX7_notsOpen_34 : decode cX7_notsOpen 34 = .ok (.goto (-30), 3) := by decide +kernel
theorem dX7_notsOpen_37 : decode cX7_notsOpen 37 = .ok (.iload_n 1, 1) := by decide +kernel
theorem dX7_notsOpen_38 : decode cX7_notsOpen 38 = .ok (.ireturn, 1) := by decide +kernel
theorem dX7_text_0 : decode cX7_text 0 = .ok (.aload_n 0, 1) := by decide +kernel
theorem dX7_text_1 : decode cX7_text 1 = .ok (.iconst 0, 1) := by decide +kernel
theorem dX7_text_2 : decode cX7_text 2 = .ok (.putfield 207, 3) := by decide +kernel
theorem dX7_text_5 : decode cX7_text 5 = .ok (.aload_n 0, 1) := by decide +kernel
theorem dX7_text_6 : decode cX7_text 6 = .ok (.iconst (-1), 1) := by decide +kernel
theorem dX7_text_7 : decode cX7_text 7 = .ok (.putfield 213, 3) := by decide +kernel
theorem dX7_text_10 : decode cX7_text 10 = .ok (.aload_n 0, 1) := by decide +kernel
theorem dX7_text_11 : decode cX7_text 11 = .ok (.invokevirtual 231, 3) := by decide +kernel
theorem dX7_text_14 : decode cX7_text 14 = .ok (.aload_n 0, 1) := by decide +kernel
theorem dX7_text_15 : decode cX7_text 15 = .ok (.invokevirtual 262, 3) := by decide +kernel
theorem dX7_text_18 : decode cX7_text 18 = .ok (.ifCond .eq 14, 3) := by decide +kernel
theorem dX7_text_21 : decode cX7_text 21 = .ok (.aload_n 0, 1) := by decide +kernel
theorem dX7_text_22 : decode cX7_text 22 = .ok (.invokevirtual 265, 3) := by decide +kernel
theorem dX7_text_25 : decode cX7_text 25 = .ok (.ifCond .eq 7, 3) := by decide +kernel
theorem dX7_text_28 : decode cX7_text 28 = .ok (.iconst 1, 1) := by decide +kernel
theorem dX7_text_29 : decode cX7_text 29 = .ok (.goto 4, 3) := by decide +kernel
theorem dX7_text_32 : decode cX7_text 32 = .ok (.iconst 0, 1) := by decide +kernel
theorem dX7_text_33 : decode cX7_text 33 = .ok (.istore_n 1, 1) := by decide +kernel
theorem dX7_text_34 : decode cX7_text 34 = .ok (.aload_n 0, 1) := by decide +kernel
theorem dX7_text_35 : decode cX7_text 35 = .ok (.iconst 0, 1) := by decide +kernel
theorem dX7_text_36 : decode cX7_text 36 = .ok (.putfield 203, 3) := by decide +kernel
theorem dX7_text_39 : decode cX7_text 39 = .ok (.iload_n 1, 1) := by decide +kernel
theorem dX7_text_40 : decode cX7_text 40 = .ok (.ifCond .ne 11, 3) := by decide +kernel
theorem dX7_text_43 : decode cX7_text 43 = .ok (.bipush (-100), 2) := by decide +kernel
theorem dX7_text_45 : decode cX7_text 45 = .ok (.aload_n 0, 1) := by decide +kernel
theorem dX7_text_46 : decode cX7_text 46 = .ok (.getfield 210, 3) := by decide +kernel
theorem dX7_text_49 : decode cX7_text 49 = .ok (.isub, 1) := by decide +kernel
theorem dX7_text_50 : decode cX7_text 50 = .ok (.ireturn, 1) := by decide +kernel
theorem dX7_text_51 : decode cX7_text 51 = .ok (.aload_n 0, 1) := by decide +kernel
theorem dX7_text_52 : decode cX7_text 52 = .ok (.getfield 9, 3) := by decide +kernel
theorem dX7_text_55 : decode cX7_text 55 = .ok (.bipush 6, 2) := by decide +kernel
theorem dX7_text_57 : decode cX7_text 57 = .ok (.iaload, 1) := by decide +kernel
theorem dX7_text_58 : decode cX7_text 58 = .ok (.bipush 14, 2) := by decide +kernel
theorem dX7_text_60 : decode cX7_text 60 = .ok (.if_icmp .ne 6, 3) := by decide +kernel
theorem dX7_text_63 : decode cX7_text 63 = .ok (.ldc 87, 2) := by decide +kernel
theorem dX7_text_65 : decode cX7_text 65 = .ok (.ireturn, 1) := by decide +kernel
theorem dX7_text_66 : decode cX7_text 66 = .ok (.aload_n 0, 1) := by decide +kernel
theorem dX7_text_67 : decode cX7_text 67 = .ok (.getfield 9, 3) := by decide +kernel
theorem dX7_text_70 : decode cX7_text 70 = .ok (.bipush 6, 2) := by decide +kernel
theorem dX7_text_72 : decode cX7_text 72 = .ok (.iaload, 1) := by decide +kernel
theorem dX7_text_73 : decode cX7_text 73 = .ok (.istore_n 2, 1) := by decide +kernel
theorem dX7_text_74 : decode cX7_text 74 = .ok (.aload_n 0, 1) := by decide +kernel
theorem dX7_text_75 : decode cX7_text 75 = .ok (.getfield 9, 3) := by decide +kernel
theorem dX7_text_78 : decode cX7_text 78 = .ok (.bipush 107, 2) := by decide +kernel
theorem dX7_text_80 : decode cX7_text 80 = .ok (.iconst 2, 1) := by decide +kernel
theorem dX7_text_81 : decode cX7_text 81 = .ok (.iload_n 2, 1) := by decide +kernel
theorem dX7_text_82 : decode cX7_text 82 = .ok (.imul, 1) := by decide +kernel
theorem dX7_text_83 : decode cX7_text 83 = .ok (.iadd, 1) := by decide +kernel
theorem dX7_text_84 : decode cX7_text 84 = .ok (.sipush 1000, 3) := by decide +kernel
theorem dX7_text_87 : decode cX7_text 87 = .ok (.aload_n 0, 1) := by decide +kernel
theorem dX7_text_88 : decode cX7_text 88 = .ok (.getfield 228, 3) := by decide +kernel
theorem dX7_text_91 : decode cX7_text 91 = .ok (.imul, 1) := by decide +kernel
theorem dX7_text_92 : decode cX7_text 92 = .ok (.aload_n 0, 1) := by decide +kernel
theorem dX7_text_93 : decode cX7_text 93 = .ok (.getfield 240, 3) := by decide +kernel
theorem dX7_text_96 : decode cX7_text 96 = .ok (.iadd, 1) := by decide +kernel
theorem dX7_text_97 : decode cX7_text 97 = .ok (.iastore, 1) := by decide +kernel
theorem dX7_text_98 : decode cX7_text 98 = .ok (.aload_n 0, 1) := by decide +kernel
theorem dX7_text_99 : decode cX7_text 99 = .ok (.getfield 9, 3) := by decide +kernel
theorem dX7_text_102 : decode cX7_text 102 = .ok (.bipush 107, 2) := by decide +kernel
theorem dX7_text_104 : decode cX7_text 104 = .ok (.iconst 2, 1) := by decide +kernel
theorem dX7_text_105 : decode cX7_text 105 = .ok (.iload_n 2, 1) := by decide +kernel
theorem dX7_text_106 : decode cX7_text 106 = .ok (.imul, 1) := by decide +kernel
theorem dX7_text_107 : decode cX7_text 107 = .ok (.iadd, 1) := by decide +kernel
theorem dX7_text_108 : decode cX7_text 108 = .ok (.iconst 1, 1) := by decide +kernel
theorem dX7_text_109 : decode cX7_text 109 = .ok (.iadd, 1) := by decide +kernel
theorem dX7_text_110 : decode cX7_text 110 = .ok (.aload_n 0, 1) := by decide +kernel
theorem dX7_text_111 : decode cX7_text 111 = .ok (.getfield 246, 3) := by decide +kernel
theorem dX7_text_114 : decode cX7_text 114 = .ok (.iastore, 1) := by decide +kernel
theorem dX7_text_115 : decode cX7_text 115 = .ok (.iconst 0, 1) := by decide +kernel
theorem dX7_text_116 : decode cX7_text 116 = .ok (.istore_n 3, 1) := by decide +kernel
theorem dX7_text_117 : decode cX7_text 117 = .ok (.iload_n 3, 1) := by decide +kernel
theorem dX7_text_118 : decode cX7_text 118 = .ok (.aload_n 0, 1) := by decide +kernel
theorem dX7_text_119 : decode cX7_text 119 = .ok (.getfield 240, 3) := by decide +kernel
theorem dX7_text_122 : decode cX7_text 122 = .ok (.if_icmp .ge 30, 3) := by decide +kernel
theorem dX7_text_125 : decode cX7_text 125 = .ok (.aload_n 0, 1) := by decide +kernel
theorem dX7_text_126 : decode cX7_text 126 = .ok (.getfield 9, 3) := by decide +kernel
theorem dX7_text_129 : decode cX7_text 129 = .ok (.sipush 135, 3) := by decide +kernel
theorem dX7_text_132 : decode cX7_text 132 = .ok (.bipush 96, 2) := by decide +kernel
theorem dX7_text_134 : decode cX7_text 134 = .ok (.iload_n 2, 1) := by decide +kernel
theorem dX7_text_135 : decode cX7_text 135 = .ok (.imul, 1) := by decide +kernel
theorem dX7_text_136 : decode cX7_text 136 = .ok (.iadd, 1) := by decide +kernel
theorem dX7_text_137 : decode cX7_text 137 = .ok (.iload_n 3, 1) := by decide +kernel
theorem dX7_text_138 : decode cX7_text 138 = .ok (.iadd, 1) := by decide +kernel
theorem dX7_text_139 : decode cX7_text 139 = .ok (.aload_n 0, 1) := by decide +kernel
theorem dX7_text_140 : decode cX7_text 140 = .ok (.getfield 38, 3) := by decide +kernel
theorem dX7_text_143 : decode cX7_text 143 = .ok (.iload_n 3, 1) := by decide +kernel
theorem dX7_text_144 : decode cX7_text 144 = .ok (.iaload, 1) := by decide +kernel
theorem dX7_text_145 : decode cX7_text 145 = .ok (.iastore, 1) := by decide +kernel
theorem dX7_text_146 : decode cX7_text 146 = .ok (.iinc 3 1, 3) := by decide +kernel
theorem dX7_text_149 : decode cX7_text 149 = .ok (.goto (-32), 3) := by decide +kernel
theorem dX7_text_152 : decode cX7_text 152 = .ok (.aload_n 0, 1) := by decide +kernel
theorem dX7_text_153 : decode cX7_text 153 = .ok (.getfield 9, 3) := by decide +kernel
theorem dX7_text_156 : decode cX7_text 156 = .ok (.bipush 6, 2) := by decide +kernel
theorem dX7_text_158 : decode cX7_text 158 = .ok (.dup2, 1) := by decide +kernel
theorem dX7_text_159 : decode cX7_text 159 = .ok (.iaload, 1) := by decide +kernel
theorem dX7_text_160 : decode cX7_text 160 = .ok (.iconst 1, 1) := by decide +kernel
theorem dX7_text_161 : decode cX7_text 161 = .ok (.iadd, 1) := by decide +kernel
theorem dX7_text_162 : decode cX7_text 162 = .ok (.iastore, 1) := by decide +kernel
theorem dX7_text_163 : decode cX7_text 163 = .ok (.iload_n 2, 1) := by decide +kernel
theorem dX7_text_164 : decode cX7_text 164 = .ok (.ireturn, 1) := by decide +kernel
theorem dX7_textTold_0 : decode cX7_textTold 0 = .ok (.iload_n 1, 1) := by decide +kernel
theorem dX7_textTold_1 : decode cX7_textTold 1 = .ok (.iconst 0, 1) := by decide +kernel
theorem dX7_textTold_2 : decode cX7_textTold 2 = .ok (.aload_n 0, 1) := by decide +kernel
theorem dX7_textTold_3 : decode cX7_textTold 3 = .ok (.getfield 9, 3) := by decide +kernel
theorem dX7_textTold_6 : decode cX7_textTold 6 = .ok (.bipush 6, 2) := by decide +kernel
theorem dX7_textTold_8 : decode cX7_textTold 8 = .ok (.iaload, 1) := by decide +kernel
theorem dX7_textTold_9 : decode cX7_textTold 9 = .ok (.iconst 1, 1) := by decide +kernel
theorem dX7_textTold_10 : decode cX7_textTold 10 = .ok (.isub, 1) := by decide +kernel
theorem dX7_textTold_11 : decode cX7_textTold 11 = .ok (.invokestatic 82, 3) := by decide +kernel
theorem dX7_textTold_14 : decode cX7_textTold 14 = .ok (.ifCond .eq 12, 3) := by decide +kernel
theorem dX7_textTold_17 : decode cX7_textTold 17 = .ok (.iload_n 2, 1) := by decide +kernel
theorem dX7_textTold_18 : decode cX7_textTold 18 = .ok (.iconst 0, 1) := by decide +kernel
theorem dX7_textTold_19 : decode cX7_textTold 19 = .ok (.iconst 1, 1) := by decide +kernel
theorem dX7_textTold_20 : decode cX7_textTold 20 = .ok (.invokestatic 82, 3) := by decide +kernel
theorem dX7_textTold_23 : decode cX7_textTold 23 = .ok (.ifCond .ne 6, 3) := by decide +kernel
theorem dX7_textTold_26 : decode cX7_textTold 26 = .ok (.ldc 86, 2) := by decide +kernel
theorem dX7_textTold_28 : decode cX7_textTold 28 = .ok (.ireturn, 1) := by decide +kernel
theorem dX7_textTold_29 : decode cX7_textTold 29 = .ok (.iload_n 2, 1) := by decide +kernel
theorem dX7_textTold_30 : decode cX7_textTold 30 = .ok (.ifCond .ne 21, 3) := by decide +kernel
theorem dX7_textTold_33 : decode cX7_textTold 33 = .ok (.aload_n 0, 1) := by decide +kernel
theorem dX7_textTold_34 : decode cX7_textTold 34 = .ok (.getfield 9, 3) := by decide +kernel
theorem dX7_textTold_37 : decode cX7_textTold 37 = .ok (.bipush 107, 2) := by decide +kernel
theorem dX7_textTold_39 : decode cX7_textTold 39 = .ok (.iconst 2, 1) := by decide +kernel
theorem dX7_textTold_40 : decode cX7_textTold 40 = .ok (.iload_n 1, 1) := by decide +kernel
theorem dX7_textTold_41 : decode cX7_textTold 41 = .ok (.imul, 1) := by decide +kernel
theorem dX7_textTold_42 : decode cX7_textTold 42 = .ok (.iadd, 1) := by decide +kernel
theorem dX7_textTold_43 : decode cX7_textTold 43 = .ok (.iaload, 1) := by decide +kernel
theorem dX7_textTold_44 : decode cX7_textTold 44 = .ok (.sipush 1000, 3) := by decide +kernel
theorem dX7_textTold_47 : decode cX7_textTold 47 = .ok (.idiv, 1) := by decide +kernel
theorem dX7_textTold_48 : decode cX7_textTold 48 = .ok (.goto 16, 3) := by decide +kernel
theorem dX7_textTold_51 : decode cX7_textTold 51 = .ok (.aload_n 0, 1) := by decide +kernel
theorem dX7_textTold_52 : decode cX7_textTold 52 = .ok (.getfield 9, 3) := by decide +kernel
theorem dX7_textTold_55 : decode cX7_textTold 55 = .ok (.bipush 107, 2) := by decide +kernel
theorem dX7_textTold_57 : decode cX7_textTold 57 = .ok (.iconst 2, 1) := by decide +kernel
theorem dX7_textTold_58 : decode cX7_textTold 58 = .ok (.iload_n 1, 1) := by decide +kernel
theorem dX7_textTold_59 : decode cX7_textTold 59 = .ok (.imul, 1) := by decide +kernel
theorem dX7_textTold_60 : decode cX7_textTold 60 = .ok (.iadd, 1) := by decide +kernel
theorem dX7_textTold_61 : decode cX7_textTold 61 = .ok (.iconst 1, 1) := by decide +kernel
theorem dX7_textTold_62 : decode cX7_textTold 62 = .ok (.iadd, 1) := by decide +kernel
theorem dX7_textTold_63 : decode cX7_textTold 63 = .ok (.iaload, 1) := by decide +kernel
theorem dX7_textTold_64 : decode cX7_textTold 64 = .ok (.ireturn, 1) := by decide +kernel
theorem dX7_counts_0 : decode cX7_counts 0 = .ok (.aload_n 0, 1) := by decide +kernel
theorem dX7_counts_1 : decode cX7_counts 1 = .ok (.getfield 9, 3) := by decide +kernel
theorem dX7_counts_4 : decode cX7_counts 4 = .ok (.bipush 6, 2) := by decide +kernel
theorem dX7_counts_6 : decode cX7_counts 6 = .ok (.iaload, 1) := by decide +kernel
theorem dX7_counts_7 : decode cX7_counts 7 = .ok (.iconst 1, 1) := by decide +kernel
theorem dX7_counts_8 : decode cX7_counts 8 = .ok (.isub, 1) := by decide +kernel
theorem dX7_counts_9 : decode cX7_counts 9 = .ok (.istore_n 2, 1) := by decide +kernel
theorem dX7_counts_10 : decode cX7_counts 10 = .ok (.iload_n 2, 1) := by decide +kernel
theorem dX7_counts_11 : decode cX7_counts 11 = .ok (.ifCond .lt 30, 3) := by decide +kernel
theorem dX7_counts_14 : decode cX7_counts 14 = .ok (.aload_n 0, 1) := by decide +kernel
theorem dX7_counts_15 : decode cX7_counts 15 = .ok (.getfield 9, 3) := by decide +kernel
theorem dX7_counts_18 : decode cX7_counts 18 = .ok (.bipush 107, 2) := by decide +kernel
theorem dX7_counts_20 : decode cX7_counts 20 = .ok (.iconst 2, 1) := by decide +kernel
theorem dX7_counts_21 : decode cX7_counts 21 = .ok (.iload_n 2, 1) := by decide +kernel
theorem dX7_counts_22 : decode cX7_counts 22 = .ok (.imul, 1) := by decide +kernel
theorem dX7_counts_23 : decode cX7_counts 23 = .ok (.iadd, 1) := by decide +kernel
theorem dX7_counts_24 : decode cX7_counts 24 = .ok (.iaload, 1) := by decide +kernel
theorem dX7_counts_25 : decode cX7_counts 25 = .ok (.sipush 1000, 3) := by decide +kernel
theorem dX7_counts_28 : decode cX7_counts 28 = .ok (.idiv, 1) := by decide +kernel
theorem dX7_counts_29 : decode cX7_counts 29 = .ok (.iload_n 1, 1) := by decide +kernel
theorem dX7_counts_30 : decode cX7_counts 30 = .ok (.if_icmp .ne 5, 3) := by decide +kernel
theorem dX7_counts_33 : decode cX7_counts 33 = .ok (.iload_n 2, 1) := by decide +kernel
theorem dX7_counts_34 : decode cX7_counts 34 = .ok (.ireturn, 1) := by decide +kernel
theorem dX7_counts_35 : decode cX7_counts 35 = .ok (.iinc 2 (-1), 3) := by decide +kernel
theorem dX7_counts_38 : decode cX7_counts 38 = .ok (.goto (-28), 3) := by decide +kernel
theorem dX7_counts_41 : decode cX7_counts 41 = .ok (.iconst (-1), 1) := by decide +kernel
theorem dX7_counts_42 : decode cX7_counts 42 = .ok (.ireturn, 1) := by decide +kernel
theorem dX7_why_0 : decode cX7_why 0 = .ok (.iload_n 1, 1) := by decide +kernel
theorem dX7_why_1 : decode cX7_why 1 = .ok (.iconst 0, 1) := by decide +kernel
theorem dX7_why_2 : decode cX7_why 2 = .ok (.iconst 2, 1) := by decide +kernel
theorem dX7_why_3 : decode cX7_why 3 = .ok (.invokestatic 82, 3) := by decide +kernel
theorem dX7_why_6 : decode cX7_why 6 = .ok (.ifCond .ne 6, 3) := by decide +kernel
theorem dX7_why_9 : decode cX7_why 9 = .ok (.ldc 86, 2) := by decide +kernel
theorem dX7_why_11 : decode cX7_why 11 = .ok (.ireturn, 1) := by decide +kernel
theorem dX7_why_12 : decode cX7_why 12 = .ok (.aload_n 0, 1) := by decide +kernel
theorem dX7_why_13 : decode cX7_why 13 = .ok (.iload_n 1, 1) := by decide +kernel
theorem dX7_why_14 : decode cX7_why 14 = .ok (.invokevirtual 100, 3) := by decide +kernel
theorem dX7_why_17 : decode cX7_why 17 = .ok (.istore_n 2, 1) := by decide +kernel
theorem dX7_why_18 : decode cX7_why 18 = .ok (.iload_n 2, 1) := by decide +kernel
theorem dX7_why_19 : decode cX7_why 19 = .ok (.ifCond .ge 8, 3) := by decide +kernel
theorem dX7_why_22 : decode cX7_why 22 = .ok (.ldc 81, 2) := by decide +kernel
theorem dX7_why_24 : decode cX7_why 24 = .ok (.goto 4, 3) := by decide +kernel
theorem dX7_why_27 : decode cX7_why 27 = .ok (.iload_n 2, 1) := by decide +kernel
theorem dX7_why_28 : decode cX7_why 28 = .ok (.ireturn, 1) := by decide +kernel
theorem dX7_two_0 : decode cX7_two 0 = .ok (.iload_n 0, 1) := by decide +kernel
theorem dX7_two_1 : decode cX7_two 1 = .ok (.tableswitch 120 (-8) (-1) #[116, 112, 108, 97, 86, 75, 61, 47], 47) := by decide +kernel
theorem dX7_two_48 : decode cX7_two 48 = .ok (.iload_n 1, 1) := by decide +kernel
theorem dX7_two_49 : decode cX7_two 49 = .ok (.ifCond .ne 7, 3) := by decide +kernel
theorem dX7_two_52 : decode cX7_two 52 = .ok (.iload_n 2, 1) := by decide +kernel
theorem dX7_two_53 : decode cX7_two 53 = .ok (.ifCond .eq 7, 3) := by decide +kernel
theorem dX7_two_56 : decode cX7_two 56 = .ok (.iconst 1, 1) := by decide +kernel
theorem dX7_two_57 : decode cX7_two 57 = .ok (.goto 4, 3) := by decide +kernel
theorem dX7_two_60 : decode cX7_two 60 = .ok (.iconst 0, 1) := by decide +kernel
theorem dX7_two_61 : decode cX7_two 61 = .ok (.ireturn, 1) := by decide +kernel
theorem dX7_two_62 : decode cX7_two 62 = .ok (.iload_n 1, 1) := by decide +kernel
theorem dX7_two_63 : decode cX7_two 63 = .ok (.ifCond .eq 11, 3) := by decide +kernel
theorem dX7_two_66 : decode cX7_two 66 = .ok (.iload_n 2, 1) := by decide +kernel
theorem dX7_two_67 : decode cX7_two 67 = .ok (.ifCond .eq 7, 3) := by decide +kernel
theorem dX7_two_70 : decode cX7_two 70 = .ok (.iconst 1, 1) := by decide +kernel
theorem dX7_two_71 : decode cX7_two 71 = .ok (.goto 4, 3) := by decide +kernel
theorem dX7_two_74 : decode cX7_two 74 = .ok (.iconst 0, 1) := by decide +kernel
theorem dX7_two_75 : decode cX7_two 75 = .ok (.ireturn, 1) := by decide +kernel
theorem dX7_two_76 : decode cX7_two 76 = .ok (.iload_n 1, 1) := by decide +kernel
theorem dX7_two_77 : decode cX7_two 77 = .ok (.iload_n 2, 1) := by decide +kernel
theorem dX7_two_78 : decode cX7_two 78 = .ok (.if_icmp .ge 7, 3) := by decide +kernel
theorem dX7_two_81 : decode cX7_two 81 = .ok (.iconst 1, 1) := by decide +kernel
theorem dX7_two_82 : decode cX7_two 82 = .ok (.goto 4, 3) := by decide +kernel
theorem dX7_two_85 : decode cX7_two 85 = .ok (.iconst 0, 1) := by decide +kernel
theorem dX7_two_86 : decode cX7_two 86 = .ok (.ireturn, 1) := by decide +kernel
theorem dX7_two_87 : decode cX7_two 87 = .ok (.iload_n 1, 1) := by decide +kernel
theorem dX7_two_88 : decode cX7_two 88 = .ok (.iload_n 2, 1) := by decide +kernel
theorem dX7_two_89 : decode cX7_two 89 = .ok (.if_icmp .ne 7, 3) := by decide +kernel
theorem dX7_two_92 : decode cX7_two 92 = .ok (.iconst 1, 1) := by decide +kernel
theorem dX7_two_93 : decode cX7_two 93 = .ok (.goto 4, 3) := by decide +kernel
theorem dX7_two_96 : decode cX7_two 96 = .ok (.iconst 0, 1) := by decide +kernel
theorem dX7_two_97 : decode cX7_two 97 = .ok (.ireturn, 1) := by decide +kernel
theorem dX7_two_98 : decode cX7_two 98 = .ok (.iload_n 1, 1) := by decide +kernel
theorem dX7_two_99 : decode cX7_two 99 = .ok (.iload_n 2, 1) := by decide +kernel
theorem dX7_two_100 : decode cX7_two 100 = .ok (.if_icmp .le 7, 3) := by decide +kernel
theorem dX7_two_103 : decode cX7_two 103 = .ok (.iconst 1, 1) := by decide +kernel
theorem dX7_two_104 : decode cX7_two 104 = .ok (.goto 4, 3) := by decide +kernel
theorem dX7_two_107 : decode cX7_two 107 = .ok (.iconst 0, 1) := by decide +kernel
theorem dX7_two_108 : decode cX7_two 108 = .ok (.ireturn, 1) := by decide +kernel
theorem dX7_two_109 : decode cX7_two 109 = .ok (.iload_n 1, 1) := by decide +kernel
theorem dX7_two_110 : decode cX7_two 110 = .ok (.iload_n 2, 1) := by decide +kernel
theorem dX7_two_111 : decode cX7_two 111 = .ok (.iadd, 1) := by decide +kernel
theorem dX7_two_112 : decode cX7_two 112 = .ok (.ireturn, 1) := by decide +kernel
theorem dX7_two_113 : decode cX7_two 113 = .ok (.iload_n 1, 1) := by decide +kernel
theorem dX7_two_114 : decode cX7_two 114 = .ok (.iload_n 2, 1) := by decide +kernel
theorem dX7_two_115 : decode cX7_two 115 = .ok (.isub, 1) := by decide +kernel
theorem dX7_two_116 : decode cX7_two 116 = .ok (.ireturn, 1) := by decide +kernel
theorem dX7_two_117 : decode cX7_two 117 = .ok (.iload_n 1, 1) := by decide +kernel
theorem dX7_two_118 : decode cX7_two 118 = .ok (.iload_n 2, 1) := by decide +kernel
theorem dX7_two_119 : decode cX7_two 119 = .ok (.imul, 1) := by decide +kernel
theorem dX7_two_120 : decode cX7_two 120 = .ok (.ireturn, 1) := by decide +kernel
theorem dX7_two_121 : decode cX7_two 121 = .ok (.iload_n 2, 1) := by decide +kernel
theorem dX7_two_122 : decode cX7_two 122 = .ok (.ifCond .ne 7, 3) := by decide +kernel
theorem dX7_two_125 : decode cX7_two 125 = .ok (.iconst 0, 1) := by decide +kernel
theorem dX7_two_126 : decode cX7_two 126 = .ok (.goto 6, 3) := by decide +kernel
theorem dX7_two_129 : decode cX7_two 129 = .ok (.iload_n 1, 1) := by decide +kernel
theorem dX7_two_130 : decode cX7_two 130 = .ok (.iload_n 2, 1) := by decide +kernel
theorem dX7_two_131 : decode cX7_two 131 = .ok (.idiv, 1) := by decide +kernel
theorem dX7_two_132 : decode cX7_two 132 = .ok (.ireturn, 1) := by decide +kernel
theorem dX7_worksOut_0 : decode cX7_worksOut 0 = .ok (.iconst 0, 1) := by decide +kernel
theorem dX7_worksOut_1 : decode cX7_worksOut 1 = .ok (.istore_n 2, 1) := by decide +kernel
theorem dX7_worksOut_2 : decode cX7_worksOut 2 = .ok (.aload_n 0, 1) := by decide +kernel
theorem dX7_worksOut_3 : decode cX7_worksOut 3 = .ok (.getfield 9, 3) := by decide +kernel
theorem dX7_worksOut_6 : decode cX7_worksOut 6 = .ok (.bipush 107, 2) := by decide +kernel
theorem dX7_worksOut_8 : decode cX7_worksOut 8 = .ok (.iconst 2, 1) := by decide +kernel
theorem dX7_worksOut_9 : decode cX7_worksOut 9 = .ok (.iload_n 1, 1) := by decide +kernel
theorem dX7_worksOut_10 : decode cX7_worksOut 10 = .ok (.imul, 1) := by decide +kernel
theorem dX7_worksOut_11 : decode cX7_worksOut 11 = .ok (.iadd, 1) := by decide +kernel
theorem dX7_worksOut_12 : decode cX7_worksOut 12 = .ok (.iaload, 1) := by decide +kernel
theorem dX7_worksOut_13 : decode cX7_worksOut 13 = .ok (.sipush 1000, 3) := by decide +kernel
theorem dX7_worksOut_16 : decode cX7_worksOut 16 = .ok (.irem, 1) := by decide +kernel
theorem dX7_worksOut_17 : decode cX7_worksOut 17 = .ok (.istore_n 3, 1) := by decide +kernel
theorem dX7_worksOut_18 : decode cX7_worksOut 18 = .ok (.iconst 0, 1) := by decide +kernel
theorem dX7_worksOut_19 : decode cX7_worksOut 19 = .ok (.istore 4, 2) := by decide +kernel
theorem dX7_worksOut_21 : decode cX7_worksOut 21 = .ok (.iload 4, 2) := by decide +kernel
theorem dX7_worksOut_23 : decode cX7_worksOut 23 = .ok (.iload_n 3, 1) := by decide +kernel
theorem dX7_worksOut_24 : decode cX7_worksOut 24 = .ok (.if_icmp .ge 132, 3) := by decide +kernel
theorem dX7_worksOut_27 : decode cX7_worksOut 27 = .ok (.aload_n 0, 1) := by decide +kernel
theorem dX7_worksOut_28 : decode cX7_worksOut 28 = .ok (.getfield 9, 3) := by decide +kernel
theorem dX7_worksOut_31 : decode cX7_worksOut 31 = .ok (.sipush 135, 3) := by decide +kernel
theorem dX7_worksOut_34 : decode cX7_worksOut 34 = .ok (.bipush 96, 2) := by decide +kernel
theorem dX7_worksOut_36 : decode cX7_worksOut 36 = .ok (.iload_n 1, 1) := by decide +kernel
theorem dX7_worksOut_37 : decode cX7_worksOut 37 = .ok (.imul, 1) := by decide +kernel
theorem dX7_worksOut_38 : decode cX7_worksOut 38 = .ok (.iadd, 1) := by decide +kernel
theorem dX7_worksOut_39 : decode cX7_worksOut 39 = .ok (.iload 4, 2) := by decide +kernel
theorem dX7_worksOut_41 : decode cX7_worksOut 41 = .ok (.iadd, 1) := by decide +kernel
theorem dX7_worksOut_42 : decode cX7_worksOut 42 = .ok (.iaload, 1) := by decide +kernel
theorem dX7_worksOut_43 : decode cX7_worksOut 43 = .ok (.istore 5, 2) := by decide +kernel
theorem dX7_worksOut_45 : decode cX7_worksOut 45 = .ok (.iload 5, 2) := by decide +kernel
theorem dX7_worksOut_47 : decode cX7_worksOut 47 = .ok (.ifCond .lt 39, 3) := by decide +kernel
theorem dX7_worksOut_50 : decode cX7_worksOut 50 = .ok (.aload_n 0, 1) := by decide +kernel
theorem dX7_worksOut_51 : decode cX7_worksOut 51 = .ok (.getfield 48, 3) := by decide +kernel
theorem dX7_worksOut_54 : decode cX7_worksOut 54 = .ok (.iload_n 2, 1) := by decide +kernel
theorem dX7_worksOut_55 : decode cX7_worksOut 55 = .ok (.iload 5, 2) := by decide +kernel
theorem dX7_worksOut_57 : decode cX7_worksOut 57 = .ok (.sipush 10000, 3) := by decide +kernel
theorem dX7_worksOut_60 : decode cX7_worksOut 60 = .ok (.if_icmp .ge 8, 3) := by decide +kernel
theorem dX7_worksOut_63 : decode cX7_worksOut 63 = .ok (.iload 5, 2) := by decide +kernel
theorem dX7_worksOut_65 : decode cX7_worksOut 65 = .ok (.goto 14, 3) := by decide +kernel
theorem dX7_worksOut_68 : decode cX7_worksOut 68 = .ok (.aload_n 0, 1) := by decide +kernel
theorem dX7_worksOut_69 : decode cX7_worksOut 69 = .ok (.getfield 51, 3) := by decide +kernel
theorem dX7_worksOut_72 : decode cX7_worksOut 72 = .ok (.iload 5, 2) := by decide +kernel
theorem dX7_worksOut_74 : decode cX7_worksOut 74 = .ok (.sipush 10000, 3) := by decide +kernel
theorem dX7_worksOut_77 : decode cX7_worksOut 77 = .ok (.isub, 1) := by decide +kernel
theorem dX7_worksOut_78 : decode cX7_worksOut 78 = .ok (.iaload, 1) := by decide +kernel
theorem dX7_worksOut_79 : decode cX7_worksOut 79 = .ok (.iastore, 1) := by decide +kernel
theorem dX7_worksOut_80 : decode cX7_worksOut 80 = .ok (.iinc 2 1, 3) := by decide +kernel
theorem dX7_worksOut_83 : decode cX7_worksOut 83 = .ok (.goto 67, 3) := by decide +kernel
theorem dX7_worksOut_86 : decode cX7_worksOut 86 = .ok (.iload 5, 2) := by decide +kernel
theorem dX7_worksOut_88 : decode cX7_worksOut 88 = .ok (.bipush (-10), 2) := by decide +kernel
theorem dX7_worksOut_90 : decode cX7_worksOut 90 = .ok (.if_icmp .ne 30, 3) := by decide +kernel
theorem dX7_worksOut_93 : decode cX7_worksOut 93 = .ok (.aload_n 0, 1) := by decide +kernel
theorem dX7_worksOut_94 : decode cX7_worksOut 94 = .ok (.getfield 48, 3) := by decide +kernel
theorem dX7_worksOut_97 : decode cX7_worksOut 97 = .ok (.iload_n 2, 1) := by decide +kernel
theorem dX7_worksOut_98 : decode cX7_worksOut 98 = .ok (.iconst 1, 1) := by decide +kernel
theorem dX7_worksOut_99 : decode cX7_worksOut 99 = .ok (.isub, 1) := by decide +kernel
theorem dX7_worksOut_100 : decode cX7_worksOut 100 = .ok (.aload_n 0, 1) := by decide +kernel
theorem dX7_worksOut_101 : decode cX7_worksOut 101 = .ok (.getfield 48, 3) := by decide +kernel
theorem dX7_worksOut_104 : decode cX7_worksOut 104 = .ok (.iload_n 2, 1) := by decide +kernel
theorem dX7_worksOut_105 : decode cX7_worksOut 105 = .ok (.iconst 1, 1) := by decide +kernel
theorem dX7_worksOut_106 : decode cX7_worksOut 106 = .ok (.isub, 1) := by decide +kernel
theorem dX7_worksOut_107 : decode cX7_worksOut 107 = .ok (.iaload, 1) := by decide +kernel
theorem dX7_worksOut_108 : decode cX7_worksOut 108 = .ok (.ifCond .ne 7, 3) := by decide +kernel
theorem dX7_worksOut_111 : decode cX7_worksOut 111 = .ok (.iconst 1, 1) := by decide +kernel
theorem dX7_worksOut_112 : decode cX7_worksOut 112 = .ok (.goto 4, 3) := by decide +kernel
theorem dX7_worksOut_115 : decode cX7_worksOut 115 = .ok (.iconst 0, 1) := by decide +kernel
theorem dX7_worksOut_116 : decode cX7_worksOut 116 = .ok (.iastore, 1) := by decide +kernel
theorem dX7_worksOut_117 : decode cX7_worksOut 117 = .ok (.goto 33, 3) := by decide +kernel
theorem dX7_worksOut_120 : decode cX7_worksOut 120 = .ok (.iinc 2 (-1), 3) := by decide +kernel
theorem dX7_worksOut_123 : decode cX7_worksOut 123 = .ok (.aload_n 0, 1) := by decide +kernel
theorem dX7_worksOut_124 : decode cX7_worksOut 124 = .ok (.getfield 48, 3) := by decide +kernel
theorem dX7_worksOut_127 : decode cX7_worksOut 127 = .ok (.iload_n 2, 1) := by decide +kernel
theorem dX7_worksOut_128 : decode cX7_worksOut 128 = .ok (.iconst 1, 1) := by decide +kernel
theorem dX7_worksOut_129 : decode cX7_worksOut 129 = .ok (.isub, 1) := by decide +kernel
theorem dX7_worksOut_130 : decode cX7_worksOut 130 = .ok (.iload 5, 2) := by decide +kernel
theorem dX7_worksOut_132 : decode cX7_worksOut 132 = .ok (.aload_n 0, 1) := by decide +kernel
theorem dX7_worksOut_133 : decode cX7_worksOut 133 = .ok (.getfield 48, 3) := by decide +kernel
theorem dX7_worksOut_136 : decode cX7_worksOut 136 = .ok (.iload_n 2, 1) := by decide +kernel
theorem dX7_worksOut_137 : decode cX7_worksOut 137 = .ok (.iconst 1, 1) := by decide +kernel
theorem dX7_worksOut_138 : decode cX7_worksOut 138 = .ok (.isub, 1) := by decide +kernel
theorem dX7_worksOut_139 : decode cX7_worksOut 139 = .ok (.iaload, 1) := by decide +kernel
theorem dX7_worksOut_140 : decode cX7_worksOut 140 = .ok (.aload_n 0, 1) := by decide +kernel
theorem dX7_worksOut_141 : decode cX7_worksOut 141 = .ok (.getfield 48, 3) := by decide +kernel
theorem dX7_worksOut_144 : decode cX7_worksOut 144 = .ok (.iload_n 2, 1) := by decide +kernel
theorem dX7_worksOut_145 : decode cX7_worksOut 145 = .ok (.iaload, 1) := by decide +kernel
theorem dX7_worksOut_146 : decode cX7_worksOut 146 = .ok (.invokestatic 268, 3) := by decide +kernel
theorem dX7_worksOut_149 : decode cX7_worksOut 149 = .ok (.iastore, 1) := by decide +kernel
theorem dX7_worksOut_150 : decode cX7_worksOut 150 = .ok (.iinc 4 1, 3) := by decide +kernel
theorem dX7_worksOut_153 : decode cX7_worksOut 153 = .ok (.goto (-132), 3) := by decide +kernel
theorem dX7_worksOut_156 : decode cX7_worksOut 156 = .ok (.aload_n 0, 1) := by decide +kernel
theorem dX7_worksOut_157 : decode cX7_worksOut 157 = .ok (.getfield 48, 3) := by decide +kernel
theorem dX7_worksOut_160 : decode cX7_worksOut 160 = .ok (.iconst 0, 1) := by decide +kernel
theorem dX7_worksOut_161 : decode cX7_worksOut 161 = .ok (.iaload, 1) := by decide +kernel
theorem dX7_worksOut_162 : decode cX7_worksOut 162 = .ok (.ireturn, 1) := by decide +kernel
theorem dX7_isSheet_0 : decode cX7_isSheet 0 = .ok (.iload_n 0, 1) := by decide +kernel
theorem dX7_isSheet_1 : decode cX7_isSheet 1 = .ok (.iconst 0, 1) := by decide +kernel
theorem dX7_isSheet_2 : decode cX7_isSheet 2 = .ok (.iconst 3, 1) := by decide +kernel
theorem dX7_isSheet_3 : decode cX7_isSheet 3 = .ok (.invokestatic 82, 3) := by decide +kernel
theorem dX7_isSheet_6 : decode cX7_isSheet 6 = .ok (.ireturn, 1) := by decide +kernel
theorem dX7_isSlot_0 : decode cX7_isSlot 0 = .ok (.iload_n 0, 1) := by decide +kernel
theorem dX7_isSlot_1 : decode cX7_isSlot 1 = .ok (.iconst 0, 1) := by decide +kernel
theorem dX7_isSlot_2 : decode cX7_isSlot 2 = .ok (.iconst 4, 1) := by decide +kernel
theorem dX7_isSlot_3 : decode cX7_isSlot 3 = .ok (.invokestatic 82, 3) := by decide +kernel
theorem dX7_isSlot_6 : decode cX7_isSlot 6 = .ok (.ireturn, 1) := by decide +kernel
theorem dX7_sheet_0 : decode cX7_sheet 0 = .ok (.iload_n 1, 1) := by decide +kernel
theorem dX7_sheet_1 : decode cX7_sheet 1 = .ok (.invokestatic 192, 3) := by decide +kernel
theorem dX7_sheet_4 : decode cX7_sheet 4 = .ok (.ifCond .eq 22, 3) := by decide +kernel
theorem dX7_sheet_7 : decode cX7_sheet 7 = .ok (.iload_n 2, 1) := by decide +kernel
theorem dX7_sheet_8 : decode cX7_sheet 8 = .ok (.iconst (-1), 1) := by decide +kernel
theorem dX7_sheet_9 : decode cX7_sheet 9 = .ok (.iconst 1, 1) := by decide +kernel
theorem dX7_sheet_10 : decode cX7_sheet 10 = .ok (.invokestatic 82, 3) := by decide +kernel
theorem dX7_sheet_13 : decode cX7_sheet 13 = .ok (.ifCond .eq 13, 3) := by decide +kernel
theorem dX7_sheet_16 : decode cX7_sheet 16 = .ok (.iload_n 2, 1) := by decide +kernel
theorem dX7_sheet_17 : decode cX7_sheet 17 = .ok (.ifCond .lt 12, 3) := by decide +kernel
theorem dX7_sheet_20 : decode cX7_sheet 20 = .ok (.iload_n 3, 1) := by decide +kernel
theorem dX7_sheet_21 : decode cX7_sheet 21 = .ok (.bipush 24, 2) := by decide +kernel
theorem dX7_sheet_23 : decode cX7_sheet 23 = .ok (.if_icmp .le 6, 3) := by decide +kernel
theorem dX7_sheet_26 : decode cX7_sheet 26 = .ok (.ldc 86, 2) := by decide +kernel
theorem dX7_sheet_28 : decode cX7_sheet 28 = .ok (.ireturn, 1) := by decide +kernel
theorem dX7_sheet_29 : decode cX7_sheet 29 = .ok (.iload_n 2, 1) := by decide +kernel
theorem dX7_sheet_30 : decode cX7_sheet 30 = .ok (.ifCond .lt 11, 3) := by decide +kernel
theorem dX7_sheet_33 : decode cX7_sheet 33 = .ok (.iload_n 3, 1) := by decide +kernel
theorem dX7_sheet_34 : decode cX7_sheet 34 = .ok (.ifCond .ge 7, 3) := by decide +kernel
theorem dX7_sheet_37 : decode cX7_sheet 37 = .ok (.ldc_w 271, 3) := by decide +kernel
theorem dX7_sheet_40 : decode cX7_sheet 40 = .ok (.ireturn, 1) := by decide +kernel
theorem dX7_sheet_41 : decode cX7_sheet 41 = .ok (.aload_n 0, 1) := by decide +kernel
theorem dX7_sheet_42 : decode cX7_sheet 42 = .ok (.getfield 54, 3) := by decide +kernel
theorem dX7_sheet_45 : decode cX7_sheet 45 = .ok (.iload_n 1, 1) := by decide +kernel
theorem dX7_sheet_46 : decode cX7_sheet 46 = .ok (.iload_n 2, 1) := by decide +kernel
theorem dX7_sheet_47 : decode cX7_sheet 47 = .ok (.iastore, 1) := by decide +kernel
theorem dX7_sheet_48 : decode cX7_sheet 48 = .ok (.aload_n 0, 1) := by decide +kernel
theorem dX7_sheet_49 : decode cX7_sheet 49 = .ok (.getfield 57, 3) := by decide +kernel
theorem dX7_sheet_52 : decode cX7_sheet 52 = .ok (.iload_n 1, 1) := by decide +kernel
theorem dX7_sheet_53 : decode cX7_sheet 53 = .ok (.iload_n 2, 1) := by decide +kernel
theorem dX7_sheet_54 : decode cX7_sheet 54 = .ok (.ifCond .ge 7, 3) := by decide +kernel
theorem dX7_sheet_57 : decode cX7_sheet 57 = .ok (.iconst 0, 1) := by decide +kernel
theorem dX7_sheet_58 : decode cX7_sheet 58 = .ok (.goto 4, 3) := by decide +kernel
theorem dX7_sheet_61 : decode cX7_sheet 61 = .ok (.iload_n 3, 1) := by decide +kernel
theorem dX7_sheet_62 : decode cX7_sheet 62 = .ok (.iastore, 1) := by decide +kernel
theorem dX7_sheet_63 : decode cX7_sheet 63 = .ok (.iconst 0, 1) := by decide +kernel
theorem dX7_sheet_64 : decode cX7_sheet 64 = .ok (.istore 4, 2) := by decide +kernel
theorem dX7_sheet_66 : decode cX7_sheet 66 = .ok (.iload 4, 2) := by decide +kernel
theorem dX7_sheet_68 : decode cX7_sheet 68 = .ok (.bipush 24, 2) := by decide +kernel
theorem dX7_sheet_70 : decode cX7_sheet 70 = .ok (.if_icmp .ge 22, 3) := by decide +kernel
theorem dX7_sheet_73 : decode cX7_sheet 73 = .ok (.aload_n 0, 1) := by decide +kernel
theorem dX7_sheet_74 : decode cX7_sheet 74 = .ok (.getfield 60, 3) := by decide +kernel
theorem dX7_sheet_77 : decode cX7_sheet 77 = .ok (.bipush 24, 2) := by decide +kernel
theorem dX7_sheet_79 : decode cX7_sheet 79 = .ok (.iload_n 1, 1) := by decide +kernel
theorem dX7_sheet_80 : decode cX7_sheet 80 = .ok (.imul, 1) := by decide +kernel
theorem dX7_sheet_81 : decode cX7_sheet 81 = .ok (.iload 4, 2) := by decide +kernel
theorem dX7_sheet_83 : decode cX7_sheet 83 = .ok (.iadd, 1) := by decide +kernel
theorem dX7_sheet_84 : decode cX7_sheet 84 = .ok (.iconst 0, 1) := by decide +kernel
theorem dX7_sheet_85 : decode cX7_sheet 85 = .ok (.iastore, 1) := by decide +kernel
theorem dX7_sheet_86 : decode cX7_sheet 86 = .ok (.iinc 4 1, 3) := by decide +kernel
theorem dX7_sheet_89 : decode cX7_sheet 89 = .ok (.goto (-23), 3) := by decide +kernel
theorem dX7_sheet_92 : decode cX7_sheet 92 = .ok (.aload_n 0, 1) := by decide +kernel
theorem dX7_sheet_93 : decode cX7_sheet 93 = .ok (.getfield 57, 3) := by decide +kernel
theorem dX7_sheet_96 : decode cX7_sheet 96 = .ok (.iload_n 1, 1) := by decide +kernel
theorem dX7_sheet_97 : decode cX7_sheet 97 = .ok (.iaload, 1) := by decide +kernel
theorem dX7_sheet_98 : decode cX7_sheet 98 = .ok (.ireturn, 1) := by decide +kernel
theorem dX7_mark_0 : decode cX7_mark 0 = .ok (.iload_n 1, 1) := by decide +kernel
theorem dX7_mark_1 : decode cX7_mark 1 = .ok (.invokestatic 192, 3) := by decide +kernel
theorem dX7_mark_4 : decode cX7_mark 4 = .ok (.ifCond .ne 6, 3) := by decide +kernel
theorem dX7_mark_7 : decode cX7_mark 7 = .ok (.ldc 86, 2) := by decide +kernel
theorem dX7_mark_9 : decode cX7_mark 9 = .ok (.ireturn, 1) := by decide +kernel
theorem dX7_mark_10 : decode cX7_mark 10 = .ok (.aload_n 0, 1) := by decide +kernel
theorem dX7_mark_11 : decode cX7_mark 11 = .ok (.getfield 54, 3) := by decide +kernel
theorem dX7_mark_14 : decode cX7_mark 14 = .ok (.iload_n 1, 1) := by decide +kernel
theorem dX7_mark_15 : decode cX7_mark 15 = .ok (.iaload, 1) := by decide +kernel
theorem dX7_mark_16 : decode cX7_mark 16 = .ok (.ifCond .ge 6, 3) := by decide +kernel
theorem dX7_mark_19 : decode cX7_mark 19 = .ok (.ldc 195, 2) := by decide +kernel
theorem dX7_mark_21 : decode cX7_mark 21 = .ok (.ireturn, 1) := by decide +kernel
theorem dX7_mark_22 : decode cX7_mark 22 = .ok (.iload_n 2, 1) := by decide +kernel
theorem dX7_mark_23 : decode cX7_mark 23 = .ok (.iconst 0, 1) := by decide +kernel
theorem dX7_mark_24 : decode cX7_mark 24 = .ok (.aload_n 0, 1) := by decide +kernel
theorem dX7_mark_25 : decode cX7_mark 25 = .ok (.getfield 57, 3) := by decide +kernel
theorem dX7_mark_28 : decode cX7_mark 28 = .ok (.iload_n 1, 1) := by decide +kernel
theorem dX7_mark_29 : decode cX7_mark 29 = .ok (.iaload, 1) := by decide +kernel
theorem dX7_mark_30 : decode cX7_mark 30 = .ok (.iconst 1, 1) := by decide +kernel
theorem dX7_mark_31 : decode cX7_mark 31 = .ok (.isub, 1) := by decide +kernel
theorem dX7_mark_32 : decode cX7_mark 32 = .ok (.invokestatic 82, 3) := by decide +kernel
theorem dX7_mark_35 : decode cX7_mark 35 = .ok (.ifCond .ne 7, 3) := by decide +kernel
theorem dX7_mark_38 : decode cX7_mark 38 = .ok (.ldc_w 272, 3) := by decide +kernel
theorem dX7_mark_41 : decode cX7_mark 41 = .ok (.ireturn, 1) := by decide +kernel
theorem dX7_mark_42 : decode cX7_mark 42 = .ok (.aload_n 0, 1) := by decide +kernel
theorem dX7_mark_43 : decode cX7_mark 43 = .ok (.getfield 54, 3) := by decide +kernel
theorem dX7_mark_46 : decode cX7_mark 46 = .ok (.iload_n 1, 1) := by decide +kernel
theorem dX7_mark_47 : decode cX7_mark 47 = .ok (.iaload, 1) := by decide +kernel
theorem dX7_mark_48 : decode cX7_mark 48 = .ok (.ifCond .ne 12, 3) := by decide +kernel
theorem dX7_mark_51 : decode cX7_mark 51 = .ok (.iload_n 3, 1) := by decide +kernel
theorem dX7_mark_52 : decode cX7_mark 52 = .ok (.ldc 81, 2) := by decide +kernel
theorem dX7_mark_54 : decode cX7_mark 54 = .ok (.if_icmp .ne 6, 3) := by decide +kernel
theorem dX7_mark_57 : decode cX7_mark 57 = .ok (.ldc 132, 2) := by decide +kernel
theorem dX7_mark_59 : decode cX7_mark 59 = .ok (.ireturn, 1) := by decide +kernel
theorem dX7_mark_60 : decode cX7_mark 60 = .ok (.aload_n 0, 1) := by decide +kernel
theorem dX7_mark_61 : decode cX7_mark 61 = .ok (.getfield 54, 3) := by decide +kernel
theorem dX7_mark_64 : decode cX7_mark 64 = .ok (.iload_n 1, 1) := by decide +kernel
theorem dX7_mark_65 : decode cX7_mark 65 = .ok (.iaload, 1) := by decide +kernel
theorem dX7_mark_66 : decode cX7_mark 66 = .ok (.iconst 1, 1) := by decide +kernel
theorem dX7_mark_67 : decode cX7_mark 67 = .ok (.if_icmp .ne 25, 3) := by decide +kernel
theorem dX7_mark_70 : decode cX7_mark 70 = .ok (.iload_n 3, 1) := by decide +kernel
theorem dX7_mark_71 : decode cX7_mark 71 = .ok (.ldc 81, 2) := by decide +kernel
theorem dX7_mark_73 : decode cX7_mark 73 = .ok (.if_icmp .eq 19, 3) := by decide +kernel
theorem dX7_mark_76 : decode cX7_mark 76 = .ok (.iload_n 3, 1) := by decide +kernel
theorem dX7_mark_77 : decode cX7_mark 77 = .ok (.ldc_w 273, 3) := by decide +kernel
theorem dX7_mark_80 : decode cX7_mark 80 = .ok (.ldc_w 274, 3) := by decide +kernel
theorem dX7_mark_83 : decode cX7_mark 83 = .ok (.invokestatic 82, 3) := by decide +kernel
theorem dX7_mark_86 : decode cX7_mark 86 = .ok (.ifCond .ne 6, 3) := by decide +kernel
theorem dX7_mark_89 : decode cX7_mark 89 = .ok (.ldc 86, 2) := by decide +kernel
theorem dX7_mark_91 : decode cX7_mark 91 = .ok (.ireturn, 1) := by decide +kernel
theorem dX7_mark_92 : decode cX7_mark 92 = .ok (.aload_n 0, 1) := by decide +kernel
theorem dX7_mark_93 : decode cX7_mark 93 = .ok (.getfield 60, 3) := by decide +kernel
theorem dX7_mark_96 : decode cX7_mark 96 = .ok (.bipush 24, 2) := by decide +kernel
theorem dX7_mark_98 : decode cX7_mark 98 = .ok (.iload_n 1, 1) := by decide +kernel
theorem dX7_mark_99 : decode cX7_mark 99 = .ok (.imul, 1) := by decide +kernel
theorem dX7_mark_100 : decode cX7_mark 100 = .ok (.iload_n 2, 1) := by decide +kernel
theorem dX7_mark_101 : decode cX7_mark 101 = .ok (.iadd, 1) := by decide +kernel
theorem dX7_mark_102 : decode cX7_mark 102 = .ok (.aload_n 0, 1) := by decide +kernel
theorem dX7_mark_103 : decode cX7_mark 103 = .ok (.getfield 54, 3) := by decide +kernel
theorem dX7_mark_106 : decode cX7_mark 106 = .ok (.iload_n 1, 1) := by decide +kernel
theorem dX7_mark_107 : decode cX7_mark 107 = .ok (.iaload, 1) := by decide +kernel
theorem dX7_mark_108 : decode cX7_mark 108 = .ok (.ifCond .ne 8, 3) := by decide +kernel
theorem dX7_mark_111 : decode cX7_mark 111 = .ok (.iload_n 3, 1) := by decide +kernel
theorem dX7_mark_112 : decode cX7_mark 112 = .ok (.i2s, 1) := by decide +kernel
theorem dX7_mark_113 : decode cX7_mark 113 = .ok (.goto 4, 3) := by decide +kernel
theorem dX7_mark_116 : decode cX7_mark 116 = .ok (.iload_n 3, 1) := by decide +kernel
theorem dX7_mark_117 : decode cX7_mark 117 = .ok (.iastore, 1) := by decide +kernel
theorem dX7_mark_118 : decode cX7_mark 118 = .ok (.iconst 1, 1) := by decide +kernel
theorem dX7_mark_119 : decode cX7_mark 119 = .ok (.ireturn, 1) := by decide +kernel
theorem dX7_pour_0 : decode cX7_pour 0 = .ok (.iload_n 1, 1) := by decide +kernel
theorem dX7_pour_1 : decode cX7_pour 1 = .ok (.invokestatic 192, 3) := by decide +kernel
theorem dX7_pour_4 : decode cX7_pour 4 = .ok (.ifCond .ne 6, 3) := by decide +kernel
theorem dX7_pour_7 : decode cX7_pour 7 = .ok (.ldc 86, 2) := by decide +kernel
theorem dX7_pour_9 : decode cX7_pour 9 = .ok (.ireturn, 1) := by decide +kernel
theorem dX7_pour_10 : decode cX7_pour 10 = .ok (.aload_n 0, 1) := by decide +kernel
theorem dX7_pour_11 : decode cX7_pour 11 = .ok (.getfield 54, 3) := by decide +kernel
theorem dX7_pour_14 : decode cX7_pour 14 = .ok (.iload_n 1, 1) := by decide +kernel
theorem dX7_pour_15 : decode cX7_pour 15 = .ok (.iaload, 1) := by decide +kernel
theorem dX7_pour_16 : decode cX7_pour 16 = .ok (.ifCond .ge 6, 3) := by decide +kernel
theorem dX7_pour_19 : decode cX7_pour 19 = .ok (.ldc 195, 2) := by decide +kernel
theorem dX7_pour_21 : decode cX7_pour 21 = .ok (.ireturn, 1) := by decide +kernel
theorem dX7_pour_22 : decode cX7_pour 22 = .ok (.iconst 0, 1) := by decide +kernel
theorem dX7_pour_23 : decode cX7_pour 23 = .ok (.istore_n 2, 1) := by decide +kernel
theorem dX7_pour_24 : decode cX7_pour 24 = .ok (.iconst 0, 1) := by decide +kernel
theorem dX7_pour_25 : decode cX7_pour 25 = .ok (.istore_n 3, 1) := by decide +kernel
theorem dX7_pour_26 : decode cX7_pour 26 = .ok (.iload_n 3, 1) := by decide +kernel
theorem dX7_pour_27 : decode cX7_pour 27 = .ok (.aload_n 0, 1) := by decide +kernel
theorem dX7_pour_28 : decode cX7_pour 28 = .ok (.getfield 57, 3) := by decide +kernel
theorem dX7_pour_31 : decode cX7_pour 31 = .ok (.iload_n 1, 1) := by decide +kernel
theorem dX7_pour_32 : decode cX7_pour 32 = .ok (.iaload, 1) := by decide +kernel
theorem dX7_pour_33 : decode cX7_pour 33 = .ok (.if_icmp .ge 87, 3) := by decide +kernel
theorem dX7_pour_36 : decode cX7_pour 36 = .ok (.iload_n 3, 1) := by decide +kernel
theorem dX7_pour_37 : decode cX7_pour 37 = .ok (.aload_n 0, 1) := by decide +kernel
theorem dX7_pour_38 : decode cX7_pour 38 = .ok (.getfield 9, 3) := by decide +kernel
theorem dX7_pour_41 : decode cX7_pour 41 = .ok (.iconst 1, 1) := by decide +kernel
theorem dX7_pour_42 : decode cX7_pour 42 = .ok (.iaload, 1) := by decide +kernel
theorem dX7_pour_43 : decode cX7_pour 43 = .ok (.if_icmp .ge 77, 3) := by decide +kernel
theorem dX7_pour_46 : decode cX7_pour 46 = .ok (.aload_n 0, 1) := by decide +kernel
theorem dX7_pour_47 : decode cX7_pour 47 = .ok (.getfield 60, 3) := by decide +kernel
theorem dX7_pour_50 : decode cX7_pour 50 = .ok (.bipush 24, 2) := by decide +kernel
theorem dX7_pour_52 : decode cX7_pour 52 = .ok (.iload_n 1, 1) := by decide +kernel
theorem dX7_pour_53 : decode cX7_pour 53 = .ok (.imul, 1) := by decide +kernel
theorem dX7_pour_54 : decode cX7_pour 54 = .ok (.iload_n 3, 1) := by decide +kernel
theorem dX7_pour_55 : decode cX7_pour 55 = .ok (.iadd, 1) := by decide +kernel
theorem dX7_pour_56 : decode cX7_pour 56 = .ok (.iaload, 1) := by decide +kernel
theorem dX7_pour_57 : decode cX7_pour 57 = .ok (.istore 4, 2) := by decide +kernel
theorem dX7_pour_59 : decode cX7_pour 59 = .ok (.iload 4, 2) := by decide +kernel
theorem dX7_pour_61 : decode cX7_pour 61 = .ok (.ldc 81, 2) := by decide +kernel
theorem dX7_pour_63 : decode cX7_pour 63 = .ok (.if_icmp .ne 12, 3) := by decide +kernel
theorem dX7_pour_66 : decode cX7_pour 66 = .ok (.aload_n 0, 1) := by decide +kernel
theorem dX7_pour_67 : decode cX7_pour 67 = .ok (.iload_n 3, 1) := by decide +kernel
theorem dX7_pour_68 : decode cX7_pour 68 = .ok (.iconst 3, 1) := by decide +kernel
theorem dX7_pour_69 : decode cX7_pour 69 = .ok (.invokevirtual 92, 3) := by decide +kernel
theorem dX7_pour_72 : decode cX7_pour 72 = .ok (.goto 12, 3) := by decide +kernel
theorem dX7_pour_75 : decode cX7_pour 75 = .ok (.iload 4, 2) := by decide +kernel
theorem dX7_pour_77 : decode cX7_pour 77 = .ok (.iconst 0, 1) := by decide +kernel
theorem dX7_pour_78 : decode cX7_pour 78 = .ok (.sipush 999, 3) := by decide +kernel
theorem dX7_pour_81 : decode cX7_pour 81 = .ok (.invokestatic 103, 3) := by decide +kernel
theorem dX7_pour_84 : decode cX7_pour 84 = .ok (.istore 5, 2) := by decide +kernel
theorem dX7_pour_86 : decode cX7_pour 86 = .ok (.iload_n 2, 1) := by decide +kernel
theorem dX7_pour_87 : decode cX7_pour 87 = .ok (.aload_n 0, 1) := by decide +kernel
theorem dX7_pour_88 : decode cX7_pour 88 = .ok (.bipush 7, 2) := by decide +kernel
theorem dX7_pour_90 : decode cX7_pour 90 = .ok (.bipush 6, 2) := by decide +kernel
theorem dX7_pour_92 : decode cX7_pour 92 = .ok (.iload_n 3, 1) := by decide +kernel
theorem dX7_pour_93 : decode cX7_pour 93 = .ok (.imul, 1) := by decide +kernel
theorem dX7_pour_94 : decode cX7_pour 94 = .ok (.iadd, 1) := by decide +kernel
theorem dX7_pour_95 : decode cX7_pour 95 = .ok (.iconst 3, 1) := by decide +kernel
theorem dX7_pour_96 : decode cX7_pour 96 = .ok (.iadd, 1) := by decide +kernel
theorem dX7_pour_97 : decode cX7_pour 97 = .ok (.iload 5, 2) := by decide +kernel
theorem dX7_pour_99 : decode cX7_pour 99 = .ok (.invokevirtual 133, 3) := by decide +kernel
theorem dX7_pour_102 : decode cX7_pour 102 = .ok (.iload 5, 2) := by decide +kernel
theorem dX7_pour_104 : decode cX7_pour 104 = .ok (.if_icmp .ne 7, 3) := by decide +kernel
theorem dX7_pour_107 : decode cX7_pour 107 = .ok (.iconst 0, 1) := by decide +kernel
theorem dX7_pour_108 : decode cX7_pour 108 = .ok (.goto 4, 3) := by decide +kernel
theorem dX7_pour_111 : decode cX7_pour 111 = .ok (.iconst 1, 1) := by decide +kernel
theorem dX7_pour_112 : decode cX7_pour 112 = .ok (.iadd, 1) := by decide +kernel
theorem dX7_pour_113 : decode cX7_pour 113 = .ok (.istore_n 2, 1) := by decide +kernel
theorem dX7_pour_114 : decode cX7_pour 114 = .ok (.iinc 3 1, 3) := by decide +kernel
theorem dX7_pour_117 : decode cX7_pour 117 = .ok (.goto (-91), 3) := by decide +kernel
theorem dX7_pour_120 : decode cX7_pour 120 = .ok (.iload_n 2, 1) := by decide +kernel
theorem dX7_pour_121 : decode cX7_pour 121 = .ok (.ireturn, 1) := by decide +kernel
theorem dX7_reads_0 : decode cX7_reads 0 = .ok (.iload_n 1, 1) := by decide +kernel
theorem dX7_reads_1 : decode cX7_reads 1 = .ok (.invokestatic 192, 3) := by decide +kernel
theorem dX7_reads_4 : decode cX7_reads 4 = .ok (.ifCond .ne 6, 3) := by decide +kernel
theorem dX7_reads_7 : decode cX7_reads 7 = .ok (.ldc 86, 2) := by decide +kernel
theorem dX7_reads_9 : decode cX7_reads 9 = .ok (.ireturn, 1) := by decide +kernel
theorem dX7_reads_10 : decode cX7_reads 10 = .ok (.aload_n 0, 1) := by decide +kernel
theorem dX7_reads_11 : decode cX7_reads 11 = .ok (.getfield 54, 3) := by decide +kernel
theorem dX7_reads_14 : decode cX7_reads 14 = .ok (.iload_n 1, 1) := by decide +kernel
theorem dX7_reads_15 : decode cX7_reads 15 = .ok (.iaload, 1) := by decide +kernel
theorem dX7_reads_16 : decode cX7_reads 16 = .ok (.ifCond .ge 6, 3) := by decide +kernel
theorem dX7_reads_19 : decode cX7_reads 19 = .ok (.ldc 195, 2) := by decide +kernel
theorem dX7_reads_21 : decode cX7_reads 21 = .ok (.ireturn, 1) := by decide +kernel
theorem dX7_reads_22 : decode cX7_reads 22 = .ok (.iconst 0, 1) := by decide +kernel
theorem dX7_reads_23 : decode cX7_reads 23 = .ok (.istore_n 2, 1) := by decide +kernel
theorem dX7_reads_24 : decode cX7_reads 24 = .ok (.iload_n 2, 1) := by decide +kernel
theorem dX7_reads_25 : decode cX7_reads 25 = .ok (.aload_n 0, 1) := by decide +kernel
theorem dX7_reads_26 : decode cX7_reads 26 = .ok (.getfield 57, 3) := by decide +kernel
theorem dX7_reads_29 : decode cX7_reads 29 = .ok (.iload_n 1, 1) := by decide +kernel
theorem dX7_reads_30 : decode cX7_reads 30 = .ok (.iaload, 1) := by decide +kernel
theorem dX7_reads_31 : decode cX7_reads 31 = .ok (.if_icmp .ge 46, 3) := by decide +kernel
theorem dX7_reads_34 : decode cX7_reads 34 = .ok (.aload_n 0, 1) := by decide +kernel
theorem dX7_reads_35 : decode cX7_reads 35 = .ok (.getfield 60, 3) := by decide +kernel
theorem dX7_reads_38 : decode cX7_reads 38 = .ok (.bipush 24, 2) := by decide +kernel
theorem dX7_reads_40 : decode cX7_reads 40 = .ok (.iload_n 1, 1) := by decide +kernel
theorem dX7_reads_41 : decode cX7_reads 41 = .ok (.imul, 1) := by decide +kernel
theorem dX7_reads_42 : decode cX7_reads 42 = .ok (.iload_n 2, 1) := by decide +kernel
theorem dX7_reads_43 : decode cX7_reads 43 = .ok (.iadd, 1) := by decide +kernel
theorem dX7_reads_44 : decode cX7_reads 44 = .ok (.iaload, 1) := by decide +kernel
theorem dX7_reads_45 : decode cX7_reads 45 = .ok (.istore_n 3, 1) := by decide +kernel
theorem dX7_reads_46 : decode cX7_reads 46 = .ok (.iload_n 3, 1) := by decide +kernel
theorem dX7_reads_47 : decode cX7_reads 47 = .ok (.ldc 81, 2) := by decide +kernel
theorem dX7_reads_49 : decode cX7_reads 49 = .ok (.if_icmp .eq 22, 3) := by decide +kernel
theorem dX7_reads_52 : decode cX7_reads 52 = .ok (.aload_n 0, 1) := by decide +kernel
theorem dX7_reads_53 : decode cX7_reads 53 = .ok (.iload_n 2, 1) := by decide +kernel
theorem dX7_reads_54 : decode cX7_reads 54 = .ok (.invokevirtual 112, 3) := by decide +kernel
theorem dX7_reads_57 : decode cX7_reads 57 = .ok (.ifCond .eq 12, 3) := by decide +kernel
theorem dX7_reads_60 : decode cX7_reads 60 = .ok (.iload_n 3, 1) := by decide +kernel
theorem dX7_reads_61 : decode cX7_reads 61 = .ok (.aload_n 0, 1) := by decide +kernel
theorem dX7_reads_62 : decode cX7_reads 62 = .ok (.iload_n 2, 1) := by decide +kernel
theorem dX7_reads_63 : decode cX7_reads 63 = .ok (.invokevirtual 116, 3) := by decide +kernel
theorem dX7_reads_66 : decode cX7_reads 66 = .ok (.if_icmp .eq 5, 3) := by decide +kernel
theorem dX7_reads_69 : decode cX7_reads 69 = .ok (.iload_n 2, 1) := by decide +kernel
theorem dX7_reads_70 : decode cX7_reads 70 = .ok (.ireturn, 1) := by decide +kernel
theorem dX7_reads_71 : decode cX7_reads 71 = .ok (.iinc 2 1, 3) := by decide +kernel
theorem dX7_reads_74 : decode cX7_reads 74 = .ok (.goto (-50), 3) := by decide +kernel
theorem dX7_reads_77 : decode cX7_reads 77 = .ok (.ldc 81, 2) := by decide +kernel
theorem dX7_reads_79 : decode cX7_reads 79 = .ok (.ireturn, 1) := by decide +kernel
theorem dX7_copy_0 : decode cX7_copy 0 = .ok (.iload_n 1, 1) := by decide +kernel
theorem dX7_copy_1 : decode cX7_copy 1 = .ok (.invokestatic 192, 3) := by decide +kernel
theorem dX7_copy_4 : decode cX7_copy 4 = .ok (.ifCond .eq 10, 3) := by decide +kernel
theorem dX7_copy_7 : decode cX7_copy 7 = .ok (.iload_n 3, 1) := by decide +kernel
theorem dX7_copy_8 : decode cX7_copy 8 = .ok (.invokestatic 192, 3) := by decide +kernel
theorem dX7_copy_11 : decode cX7_copy 11 = .ok (.ifCond .ne 6, 3) := by decide +kernel
theorem dX7_copy_14 : decode cX7_copy 14 = .ok (.ldc 86, 2) := by decide +kernel
theorem dX7_copy_16 : decode cX7_copy 16 = .ok (.ireturn, 1) := by decide +kernel
theorem dX7_copy_17 : decode cX7_copy 17 = .ok (.aload_n 0, 1) := by decide +kernel
theorem dX7_copy_18 : decode cX7_copy 18 = .ok (.getfield 54, 3) := by decide +kernel
theorem dX7_copy_21 : decode cX7_copy 21 = .ok (.iload_n 1, 1) := by decide +kernel
theorem dX7_copy_22 : decode cX7_copy 22 = .ok (.iaload, 1) := by decide +kernel
theorem dX7_copy_23 : decode cX7_copy 23 = .ok (.ifCond .lt 12, 3) := by decide +kernel
theorem dX7_copy_26 : decode cX7_copy 26 = .ok (.aload_n 0, 1) := by decide +kernel
theorem dX7_copy_27 : decode cX7_copy 27 = .ok (.getfield 54, 3) := by decide +kernel
theorem dX7_copy_30 : decode cX7_copy 30 = .ok (.iload_n 3, 1) := by decide +kernel
theorem dX7_copy_31 : decode cX7_copy 31 = .ok (.iaload, 1) := by decide +kernel
theorem dX7_copy_32 : decode cX7_copy 32 = .ok (.ifCond .ge 6, 3) := by decide +kernel
theorem dX7_copy_35 : decode cX7_copy 35 = .ok (.ldc 195, 2) := by decide +kernel
theorem dX7_copy_37 : decode cX7_copy 37 = .ok (.ireturn, 1) := by decide +kernel
theorem dX7_copy_38 : decode cX7_copy 38 = .ok (.aload_n 0, 1) := by decide +kernel
theorem dX7_copy_39 : decode cX7_copy 39 = .ok (.getfield 54, 3) := by decide +kernel
theorem dX7_copy_42 : decode cX7_copy 42 = .ok (.iload_n 1, 1) := by decide +kernel
theorem dX7_copy_43 : decode cX7_copy 43 = .ok (.iaload, 1) := by decide +kernel
theorem dX7_copy_44 : decode cX7_copy 44 = .ok (.aload_n 0, 1) := by decide +kernel
theorem dX7_copy_45 : decode cX7_copy 45 = .ok (.getfield 54, 3) := by decide +kernel
theorem dX7_copy_48 : decode cX7_copy 48 = .ok (.iload_n 3, 1) := by decide +kernel
theorem dX7_copy_49 : decode cX7_copy 49 = .ok (.iaload, 1) := by decide +kernel
theorem dX7_copy_50 : decode cX7_copy 50 = .ok (.if_icmp .eq 6, 3) := by decide +kernel
theorem dX7_copy_53 : decode cX7_copy 53 = .ok (.ldc 132, 2) := by decide +kernel
theorem dX7_copy_55 : decode cX7_copy 55 = .ok (.ireturn, 1) := by decide +kernel
theorem dX7_copy_56 : decode cX7_copy 56 = .ok (.iload_n 2, 1) := by decide +kernel
theorem dX7_copy_57 : decode cX7_copy 57 = .ok (.ifCond .lt 40, 3) := by decide +kernel
theorem dX7_copy_60 : decode cX7_copy 60 = .ok (.iload 4, 2) := by decide +kernel
theorem dX7_copy_62 : decode cX7_copy 62 = .ok (.ifCond .lt 35, 3) := by decide +kernel
theorem dX7_copy_65 : decode cX7_copy 65 = .ok (.iload 5, 2) := by decide +kernel
theorem dX7_copy_67 : decode cX7_copy 67 = .ok (.ifCond .lt 30, 3) := by decide +kernel
theorem dX7_copy_70 : decode cX7_copy 70 = .ok (.iload_n 2, 1) := by decide +kernel
theorem dX7_copy_71 : decode cX7_copy 71 = .ok (.aload_n 0, 1) := by decide +kernel
theorem dX7_copy_72 : decode cX7_copy 72 = .ok (.getfield 57, 3) := by decide +kernel
theorem dX7_copy_75 : decode cX7_copy 75 = .ok (.iload_n 1, 1) := by decide +kernel
theorem dX7_copy_76 : decode cX7_copy 76 = .ok (.iaload, 1) := by decide +kernel
theorem dX7_copy_77 : decode cX7_copy 77 = .ok (.iload 5, 2) := by decide +kernel
theorem dX7_copy_79 : decode cX7_copy 79 = .ok (.isub, 1) := by decide +kernel
theorem dX7_copy_80 : decode cX7_copy 80 = .ok (.if_icmp .gt 17, 3) := by decide +kernel
theorem dX7_copy_83 : decode cX7_copy 83 = .ok (.iload 4, 2) := by decide +kernel
theorem dX7_copy_85 : decode cX7_copy 85 = .ok (.aload_n 0, 1) := by decide +kernel
theorem dX7_copy_86 : decode cX7_copy 86 = .ok (.getfield 57, 3) := by decide +kernel
theorem dX7_copy_89 : decode cX7_copy 89 = .ok (.iload_n 3, 1) := by decide +kernel
theorem dX7_copy_90 : decode cX7_copy 90 = .ok (.iaload, 1) := by decide +kernel
theorem dX7_copy_91 : decode cX7_copy 91 = .ok (.iload 5, 2) := by decide +kernel
theorem dX7_copy_93 : decode cX7_copy 93 = .ok (.isub, 1) := by decide +kernel
theorem dX7_copy_94 : decode cX7_copy 94 = .ok (.if_icmp .le 7, 3) := by decide +kernel
theorem dX7_copy_97 : decode cX7_copy 97 = .ok (.ldc_w 272, 3) := by decide +kernel
theorem dX7_copy_100 : decode cX7_copy 100 = .ok (.ireturn, 1) := by decide +kernel
theorem dX7_copy_101 : decode cX7_copy 101 = .ok (.iconst 0, 1) := by decide +kernel
theorem dX7_copy_102 : decode cX7_copy 102 = .ok (.istore 6, 2) := by decide +kernel
theorem dX7_copy_104 : decode cX7_copy 104 = .ok (.iload 6, 2) := by decide +kernel
theorem dX7_copy_106 : decode cX7_copy 106 = .ok (.iload 5, 2) := by decide +kernel
theorem dX7_copy_108 : decode cX7_copy 108 = .ok (.if_icmp .ge 30, 3) := by decide +kernel
theorem dX7_copy_111 : decode cX7_copy 111 = .ok (.aload_n 0, 1) := by decide +kernel
theorem dX7_copy_112 : decode cX7_copy 112 = .ok (.getfield 75, 3) := by decide +kernel
theorem dX7_copy_115 : decode cX7_copy 115 = .ok (.iload 6, 2) := by decide +kernel
theorem dX7_copy_117 : decode cX7_copy 117 = .ok (.aload_n 0, 1) := by decide +kernel
theorem dX7_copy_118 : decode cX7_copy 118 = .ok (.getfield 60, 3) := by decide +kernel
theorem dX7_copy_121 : decode cX7_copy 121 = .ok (.bipush 24, 2) := by decide +kernel
theorem dX7_copy_123 : decode cX7_copy 123 = .ok (.iload_n 1, 1) := by decide +kernel
theorem dX7_copy_124 : decode cX7_copy 124 = .ok (.imul, 1) := by decide +kernel
theorem dX7_copy_125 : decode cX7_copy 125 = .ok (.iload_n 2, 1) := by decide +kernel
theorem dX7_copy_126 : decode cX7_copy 126 = .ok (.iadd, 1) := by decide +kernel
theorem dX7_copy_127 : decode cX7_copy 127 = .ok (.iload 6, 2) := by decide +kernel
theorem dX7_copy_129 : decode cX7_copy 129 = .ok (.iadd, 1) := by decide +kernel
theorem dX7_copy_130 : decode cX7_copy 130 = .ok (.iaload, 1) := by decide +kernel
theorem dX7_copy_131 : decode cX7_copy 131 = .ok (.iastore, 1) := by decide +kernel
theorem dX7_copy_132 : decode cX7_copy 132 = .ok (.iinc 6 1, 3) := by decide +kernel
theorem dX7_copy_135 : decode cX7_copy 135 = .ok (.goto (-31), 3) := by decide +kernel
theorem dX7_copy_138 : decode cX7_copy 138 = .ok (.iconst 0, 1) := by decide +kernel
theorem dX7_copy_139 : decode cX7_copy 139 = .ok (.istore 6, 2) := by decide +kernel
theorem dX7_copy_141 : decode cX7_copy 141 = .ok (.iload 6, 2) := by decide +kernel
theorem dX7_copy_143 : decode cX7_copy 143 = .ok (.iload 5, 2) := by decide +kernel
theorem dX7_copy_145 : decode cX7_copy 145 = .ok (.if_icmp .ge 31, 3) := by decide +kernel
theorem dX7_copy_148 : decode cX7_copy 148 = .ok (.aload_n 0, 1) := by decide +kernel
theorem dX7_copy_149 : decode cX7_copy 149 = .ok (.getfield 60, 3) := by decide +kernel
theorem dX7_copy_152 : decode cX7_copy 152 = .ok (.bipush 24, 2) := by decide +kernel
theorem dX7_copy_154 : decode cX7_copy 154 = .ok (.iload_n 3, 1) := by decide +kernel
theorem dX7_copy_155 : decode cX7_copy 155 = .ok (.imul, 1) := by decide +kernel
theorem dX7_copy_156 : decode cX7_copy 156 = .ok (.iload 4, 2) := by decide +kernel
theorem dX7_copy_158 : decode cX7_copy 158 = .ok (.iadd, 1) := by decide +kernel
theorem dX7_copy_159 : decode cX7_copy 159 = .ok (.iload 6, 2) := by decide +kernel
theorem dX7_copy_161 : decode cX7_copy 161 = .ok (.iadd, 1) := by decide +kernel
theorem dX7_copy_162 : decode cX7_copy 162 = .ok (.aload_n 0, 1) := by decide +kernel
theorem dX7_copy_163 : decode cX7_copy 163 = .ok (.getfield 75, 3) := by decide +kernel
theorem dX7_copy_166 : decode cX7_copy 166 = .ok (.iload 6, 2) := by decide +kernel
theorem dX7_copy_168 : decode cX7_copy 168 = .ok (.iaload, 1) := by decide +kernel
theorem dX7_copy_169 : decode cX7_copy 169 = .ok (.iastore, 1) := by decide +kernel
theorem dX7_copy_170 : decode cX7_copy 170 = .ok (.iinc 6 1, 3) := by decide +kernel
theorem dX7_copy_173 : decode cX7_copy 173 = .ok (.goto (-32), 3) := by decide +kernel
theorem dX7_copy_176 : decode cX7_copy 176 = .ok (.iload 5, 2) := by decide +kernel
theorem dX7_copy_178 : decode cX7_copy 178 = .ok (.ireturn, 1) := by decide +kernel
theorem dX7_lay_0 : decode cX7_lay 0 = .ok (.iload_n 1, 1) := by decide +kernel
theorem dX7_lay_1 : decode cX7_lay 1 = .ok (.invokestatic 275, 3) := by decide +kernel
theorem dX7_lay_4 : decode cX7_lay 4 = .ok (.ifCond .eq 37, 3) := by decide +kernel
theorem dX7_lay_7 : decode cX7_lay 7 = .ok (.iload_n 2, 1) := by decide +kernel
theorem dX7_lay_8 : decode cX7_lay 8 = .ok (.iconst 0, 1) := by decide +kernel
theorem dX7_lay_9 : decode cX7_lay 9 = .ok (.iconst 3, 1) := by decide +kernel
theorem dX7_lay_10 : decode cX7_lay 10 = .ok (.invokestatic 82, 3) := by decide +kernel
theorem dX7_lay_13 : decode cX7_lay 13 = .ok (.ifCond .eq 28, 3) := by decide +kernel
theorem dX7_lay_16 : decode cX7_lay 16 = .ok (.iload_n 2, 1) := by decide +kernel
theorem dX7_lay_17 : decode cX7_lay 17 = .ok (.iconst 1, 1) := by decide +kernel
theorem dX7_lay_18 : decode cX7_lay 18 = .ok (.if_icmp .ne 11, 3) := by decide +kernel
theorem dX7_lay_21 : decode cX7_lay 21 = .ok (.aload_n 0, 1) := by decide +kernel
theorem dX7_lay_22 : decode cX7_lay 22 = .ok (.iload_n 3, 1) := by decide +kernel
theorem dX7_lay_23 : decode cX7_lay 23 = .ok (.invokevirtual 112, 3) := by decide +kernel
theorem dX7_lay_26 : decode cX7_lay 26 = .ok (.ifCond .eq 15, 3) := by decide +kernel
theorem dX7_lay_29 : decode cX7_lay 29 = .ok (.iload_n 2, 1) := by decide +kernel
theorem dX7_lay_30 : decode cX7_lay 30 = .ok (.iconst 2, 1) := by decide +kernel
theorem dX7_lay_31 : decode cX7_lay 31 = .ok (.if_icmp .ne 13, 3) := by decide +kernel
theorem dX7_lay_34 : decode cX7_lay 34 = .ok (.iload_n 3, 1) := by decide +kernel
theorem dX7_lay_35 : decode cX7_lay 35 = .ok (.invokestatic 192, 3) := by decide +kernel
theorem dX7_lay_38 : decode cX7_lay 38 = .ok (.ifCond .ne 6, 3) := by decide +kernel
theorem dX7_lay_41 : decode cX7_lay 41 = .ok (.ldc 86, 2) := by decide +kernel
theorem dX7_lay_43 : decode cX7_lay 43 = .ok (.ireturn, 1) := by decide +kernel
theorem dX7_lay_44 : decode cX7_lay 44 = .ok (.iload_n 2, 1) := by decide +kernel
theorem dX7_lay_45 : decode cX7_lay 45 = .ok (.iconst 2, 1) := by decide +kernel
theorem dX7_lay_46 : decode cX7_lay 46 = .ok (.if_icmp .ne 15, 3) := by decide +kernel
theorem dX7_lay_49 : decode cX7_lay 49 = .ok (.aload_n 0, 1) := by decide +kernel
theorem dX7_lay_50 : decode cX7_lay 50 = .ok (.getfield 54, 3) := by decide +kernel
theorem dX7_lay_53 : decode cX7_lay 53 = .ok (.iload_n 3, 1) := by decide +kernel
theorem dX7_lay_54 : decode cX7_lay 54 = .ok (.iaload, 1) := by decide +kernel
theorem dX7_lay_55 : decode cX7_lay 55 = .ok (.ifCond .ge 6, 3) := by decide +kernel
theorem dX7_lay_58 : decode cX7_lay 58 = .ok (.ldc 195, 2) := by decide +kernel
theorem dX7_lay_60 : decode cX7_lay 60 = .ok (.ireturn, 1) := by decide +kernel
theorem dX7_lay_61 : decode cX7_lay 61 = .ok (.aload_n 0, 1) := by decide +kernel
theorem dX7_lay_62 : decode cX7_lay 62 = .ok (.getfield 63, 3) := by decide +kernel
theorem dX7_lay_65 : decode cX7_lay 65 = .ok (.iload_n 1, 1) := by decide +kernel
theorem dX7_lay_66 : decode cX7_lay 66 = .ok (.iaload, 1) := by decide +kernel
theorem dX7_lay_67 : decode cX7_lay 67 = .ok (.istore 4, 2) := by decide +kernel
theorem dX7_lay_69 : decode cX7_lay 69 = .ok (.aload_n 0, 1) := by decide +kernel
theorem dX7_lay_70 : decode cX7_lay 70 = .ok (.getfield 63, 3) := by decide +kernel
theorem dX7_lay_73 : decode cX7_lay 73 = .ok (.iload_n 1, 1) := by decide +kernel
theorem dX7_lay_74 : decode cX7_lay 74 = .ok (.iload_n 2, 1) := by decide +kernel
theorem dX7_lay_75 : decode cX7_lay 75 = .ok (.iastore, 1) := by decide +kernel
theorem dX7_lay_76 : decode cX7_lay 76 = .ok (.aload_n 0, 1) := by decide +kernel
theorem dX7_lay_77 : decode cX7_lay 77 = .ok (.getfield 66, 3) := by decide +kernel
theorem dX7_lay_80 : decode cX7_lay 80 = .ok (.iload_n 1, 1) := by decide +kernel
theorem dX7_lay_81 : decode cX7_lay 81 = .ok (.iload_n 2, 1) := by decide +kernel
theorem dX7_lay_82 : decode cX7_lay 82 = .ok (.iconst 1, 1) := by decide +kernel
theorem dX7_lay_83 : decode cX7_lay 83 = .ok (.if_icmp .ne 12, 3) := by decide +kernel
theorem dX7_lay_86 : decode cX7_lay 86 = .ok (.aload_n 0, 1) := by decide +kernel
theorem dX7_lay_87 : decode cX7_lay 87 = .ok (.iload_n 3, 1) := by decide +kernel
theorem dX7_lay_88 : decode cX7_lay 88 = .ok (.iconst 0, 1) := by decide +kernel
theorem dX7_lay_89 : decode cX7_lay 89 = .ok (.invokevirtual 92, 3) := by decide +kernel
theorem dX7_lay_92 : decode cX7_lay 92 = .ok (.goto 18, 3) := by decide +kernel
theorem dX7_lay_95 : decode cX7_lay 95 = .ok (.iload_n 2, 1) := by decide +kernel
theorem dX7_lay_96 : decode cX7_lay 96 = .ok (.iconst 2, 1) := by decide +kernel
theorem dX7_lay_97 : decode cX7_lay 97 = .ok (.if_icmp .ne 12, 3) := by decide +kernel
theorem dX7_lay_100 : decode cX7_lay 100 = .ok (.aload_n 0, 1) := by decide +kernel
theorem dX7_lay_101 : decode cX7_lay 101 = .ok (.getfield 57, 3) := by decide +kernel
theorem dX7_lay_104 : decode cX7_lay 104 = .ok (.iload_n 3, 1) := by decide +kernel
theorem dX7_lay_105 : decode cX7_lay 105 = .ok (.iaload, 1) := by decide +kernel
theorem dX7_lay_106 : decode cX7_lay 106 = .ok (.goto 4, 3) := by decide +kernel
theorem dX7_lay_109 : decode cX7_lay 109 = .ok (.iload_n 3, 1) := by decide +kernel
theorem dX7_lay_110 : decode cX7_lay 110 = .ok (.iastore, 1) := by decide +kernel
theorem dX7_lay_111 : decode cX7_lay 111 = .ok (.aload_n 0, 1) := by decide +kernel
theorem dX7_lay_112 : decode cX7_lay 112 = .ok (.getfield 69, 3) := by decide +kernel
theorem dX7_lay_115 : decode cX7_lay 115 = .ok (.iload_n 1, 1) := by decide +kernel
theorem dX7_lay_116 : decode cX7_lay 116 = .ok (.iload_n 2, 1) := by decide +kernel
theorem dX7_lay_117 : decode cX7_lay 117 = .ok (.iconst 1, 1) := by decide +kernel
theorem dX7_lay_118 : decode cX7_lay 118 = .ok (.if_icmp .ne 11, 3) := by decide +kernel
theorem dX7_lay_121 : decode cX7_lay 121 = .ok (.aload_n 0, 1) := by decide +kernel
theorem dX7_lay_122 : decode cX7_lay 122 = .ok (.iload_n 3, 1) := by decide +kernel
theorem dX7_lay_123 : decode cX7_lay 123 = .ok (.invokevirtual 122, 3) := by decide +kernel
theorem dX7_lay_126 : decode cX7_lay 126 = .ok (.goto 4, 3) := by decide +kernel
theorem dX7_lay_129 : decode cX7_lay 129 = .ok (.iconst 0, 1) := by decide +kernel
theorem dX7_lay_130 : decode cX7_lay 130 = .ok (.iastore, 1) := by decide +kernel
theorem dX7_lay_131 : decode cX7_lay 131 = .ok (.iconst 0, 1) := by decide +kernel
theorem dX7_lay_132 : decode cX7_lay 132 = .ok (.istore 5, 2) := by decide +kernel
theorem dX7_lay_134 : decode cX7_lay 134 = .ok (.iload 5, 2) := by decide +kernel
theorem dX7_lay_136 : decode cX7_lay 136 = .ok (.bipush 24, 2) := by decide +kernel
theorem dX7_lay_138 : decode cX7_lay 138 = .ok (.if_icmp .ge 38, 3) := by decide +kernel
theorem dX7_lay_141 : decode cX7_lay 141 = .ok (.iload_n 2, 1) := by decide +kernel
theorem dX7_lay_142 : decode cX7_lay 142 = .ok (.iconst 2, 1) := by decide +kernel
theorem dX7_lay_143 : decode cX7_lay 143 = .ok (.if_icmp .ne 33, 3) := by decide +kernel
theorem dX7_lay_146 : decode cX7_lay 146 = .ok (.aload_n 0, 1) := by decide +kernel
theorem dX7_lay_147 : decode cX7_lay 147 = .ok (.getfield 72, 3) := by decide +kernel
theorem dX7_lay_150 : decode cX7_lay 150 = .ok (.bipush 24, 2) := by decide +kernel
theorem dX7_lay_152 : decode cX7_lay 152 = .ok (.iload_n 1, 1) := by decide +kernel
theorem dX7_lay_153 : decode cX7_lay 153 = .ok (.imul, 1) := by decide +kernel
theorem dX7_lay_154 : decode cX7_lay 154 = .ok (.iload 5, 2) := by decide +kernel
theorem dX7_lay_156 : decode cX7_lay 156 = .ok (.iadd, 1) := by decide +kernel
theorem dX7_lay_157 : decode cX7_lay 157 = .ok (.aload_n 0, 1) := by decide +kernel
theorem dX7_lay_158 : decode cX7_lay 158 = .ok (.getfield 60, 3) := by decide +kernel
theorem dX7_lay_161 : decode cX7_lay 161 = .ok (.bipush 24, 2) := by decide +kernel
theorem dX7_lay_163 : decode cX7_lay 163 = .ok (.iload_n 3, 1) := by decide +kernel
theorem dX7_lay_164 : decode cX7_lay 164 = .ok (.imul, 1) := by decide +kernel
theorem dX7_lay_165 : decode cX7_lay 165 = .ok (.iload 5, 2) := by decide +kernel
theorem dX7_lay_167 : decode cX7_lay 167 = .ok (.iadd, 1) := by decide +kernel
theorem dX7_lay_168 : decode cX7_lay 168 = .ok (.iaload, 1) := by decide +kernel
theorem dX7_lay_169 : decode cX7_lay 169 = .ok (.iastore, 1) := by decide +kernel
theorem dX7_lay_170 : decode cX7_lay 170 = .ok (.iinc 5 1, 3) := by decide +kernel
theorem dX7_lay_173 : decode cX7_lay 173 = .ok (.goto (-39), 3) := by decide +kernel
theorem dX7_lay_176 : decode cX7_lay 176 = .ok (.iload 4, 2) := by decide +kernel
theorem dX7_lay_178 : decode cX7_lay 178 = .ok (.ireturn, 1) := by decide +kernel
theorem dX7_ask_0 : decode cX7_ask 0 = .ok (.iload_n 1, 1) := by decide +kernel
theorem dX7_ask_1 : decode cX7_ask 1 = .ok (.invokestatic 275, 3) := by decide +kernel
theorem dX7_ask_4 : decode cX7_ask 4 = .ok (.ifCond .eq 12, 3) := by decide +kernel
theorem dX7_ask_7 : decode cX7_ask 7 = .ok (.iload_n 2, 1) := by decide +kernel
theorem dX7_ask_8 : decode cX7_ask 8 = .ok (.iconst 0, 1) := by decide +kernel
theorem dX7_ask_9 : decode cX7_ask 9 = .ok (.iconst 5, 1) := by decide +kernel
theorem dX7_ask_10 : decode cX7_ask 10 = .ok (.invokestatic 82, 3) := by decide +kernel
theorem dX7_ask_13 : decode cX7_ask 13 = .ok (.ifCond .ne 6, 3) := by decide +kernel
theorem dX7_ask_16 : decode cX7_ask 16 = .ok (.ldc 86, 2) := by decide +kernel
theorem dX7_ask_18 : decode cX7_ask 18 = .ok (.ireturn, 1) := by decide +kernel
theorem dX7_ask_19 : decode cX7_ask 19 = .ok (.aload_n 0, 1) := by decide +kernel
theorem dX7_ask_20 : decode cX7_ask 20 = .ok (.getfield 63, 3) := by decide +kernel
theorem dX7_ask_23 : decode cX7_ask 23 = .ok (.iload_n 1, 1) := by decide +kernel
theorem dX7_ask_24 : decode cX7_ask 24 = .ok (.iaload, 1) := by decide +kernel
theorem dX7_ask_25 : decode cX7_ask 25 = .ok (.ifCond .ne 6, 3) := by decide +kernel
theorem dX7_ask_28 : decode cX7_ask 28 = .ok (.ldc 195, 2) := by decide +kernel
theorem dX7_ask_30 : decode cX7_ask 30 = .ok (.ireturn, 1) := by decide +kernel
theorem dX7_ask_31 : decode cX7_ask 31 = .ok (.aload_n 0, 1) := by decide +kernel
theorem dX7_ask_32 : decode cX7_ask 32 = .ok (.getfield 63, 3) := by decide +kernel
theorem dX7_ask_35 : decode cX7_ask 35 = .ok (.iload_n 1, 1) := by decide +kernel
theorem dX7_ask_36 : decode cX7_ask 36 = .ok (.iaload, 1) := by decide +kernel
theorem dX7_ask_37 : decode cX7_ask 37 = .ok (.iconst 1, 1) := by decide +kernel
theorem dX7_ask_38 : decode cX7_ask 38 = .ok (.if_icmp .ne 25, 3) := by decide +kernel
theorem dX7_ask_41 : decode cX7_ask 41 = .ok (.aload_n 0, 1) := by decide +kernel
theorem dX7_ask_42 : decode cX7_ask 42 = .ok (.getfield 66, 3) := by decide +kernel
theorem dX7_ask_45 : decode cX7_ask 45 = .ok (.iload_n 1, 1) := by decide +kernel
theorem dX7_ask_46 : decode cX7_ask 46 = .ok (.iaload, 1) := by decide +kernel
theorem dX7_ask_47 : decode cX7_ask 47 = .ok (.iload_n 2, 1) := by decide +kernel
theorem dX7_ask_48 : decode cX7_ask 48 = .ok (.invokestatic 128, 3) := by decide +kernel
theorem dX7_ask_51 : decode cX7_ask 51 = .ok (.ifCond .eq 12, 3) := by decide +kernel
theorem dX7_ask_54 : decode cX7_ask 54 = .ok (.aload_n 0, 1) := by decide +kernel
theorem dX7_ask_55 : decode cX7_ask 55 = .ok (.getfield 69, 3) := by decide +kernel
theorem dX7_ask_58 : decode cX7_ask 58 = .ok (.iload_n 1, 1) := by decide +kernel
theorem dX7_ask_59 : decode cX7_ask 59 = .ok (.iaload, 1) := by decide +kernel
theorem dX7_ask_60 : decode cX7_ask 60 = .ok (.goto 5, 3) := by decide +kernel
theorem dX7_ask_63 : decode cX7_ask 63 = .ok (.ldc 132, 2) := by decide +kernel
theorem dX7_ask_65 : decode cX7_ask 65 = .ok (.ireturn, 1) := by decide +kernel
theorem dX7_item_0 : decode cX7_item 0 = .ok (.iload_n 1, 1) := by decide +kernel
theorem dX7_item_1 : decode cX7_item 1 = .ok (.invokestatic 275, 3) := by decide +kernel
theorem dX7_item_4 : decode cX7_item 4 = .ok (.ifCond .ne 6, 3) := by decide +kernel
theorem dX7_item_7 : decode cX7_item 7 = .ok (.ldc 86, 2) := by decide +kernel
theorem dX7_item_9 : decode cX7_item 9 = .ok (.ireturn, 1) := by decide +kernel
theorem dX7_item_10 : decode cX7_item 10 = .ok (.aload_n 0, 1) := by decide +kernel
theorem dX7_item_11 : decode cX7_item 11 = .ok (.getfield 63, 3) := by decide +kernel
theorem dX7_item_14 : decode cX7_item 14 = .ok (.iload_n 1, 1) := by decide +kernel
theorem dX7_item_15 : decode cX7_item 15 = .ok (.iaload, 1) := by decide +kernel
theorem dX7_item_16 : decode cX7_item 16 = .ok (.ifCond .ne 6, 3) := by decide +kernel
theorem dX7_item_19 : decode cX7_item 19 = .ok (.ldc 195, 2) := by decide +kernel
theorem dX7_item_21 : decode cX7_item 21 = .ok (.ireturn, 1) := by decide +kernel
theorem dX7_item_22 : decode cX7_item 22 = .ok (.aload_n 0, 1) := by decide +kernel
theorem dX7_item_23 : decode cX7_item 23 = .ok (.getfield 63, 3) := by decide +kernel
theorem dX7_item_26 : decode cX7_item 26 = .ok (.iload_n 1, 1) := by decide +kernel
theorem dX7_item_27 : decode cX7_item 27 = .ok (.iaload, 1) := by decide +kernel
theorem dX7_item_28 : decode cX7_item 28 = .ok (.iconst 2, 1) := by decide +kernel
theorem dX7_item_29 : decode cX7_item 29 = .ok (.if_icmp .eq 6, 3) := by decide +kernel
theorem dX7_item_32 : decode cX7_item 32 = .ok (.ldc 132, 2) := by decide +kernel
theorem dX7_item_34 : decode cX7_item 34 = .ok (.ireturn, 1) := by decide +kernel
theorem dX7_item_35 : decode cX7_item 35 = .ok (.iload_n 2, 1) := by decide +kernel
theorem dX7_item_36 : decode cX7_item 36 = .ok (.iconst 0, 1) := by decide +kernel
theorem dX7_item_37 : decode cX7_item 37 = .ok (.aload_n 0, 1) := by decide +kernel
theorem dX7_item_38 : decode cX7_item 38 = .ok (.getfield 66, 3) := by decide +kernel
theorem dX7_item_41 : decode cX7_item 41 = .ok (.iload_n 1, 1) := by decide +kernel
theorem dX7_item_42 : decode cX7_item 42 = .ok (.iaload, 1) := by decide +kernel
theorem dX7_item_43 : decode cX7_item 43 = .ok (.iconst 1, 1) := by decide +kernel
theorem dX7_item_44 : decode cX7_item 44 = .ok (.isub, 1) := by decide +kernel
theorem dX7_item_45 : decode cX7_item 45 = .ok (.invokestatic 82, 3) := by decide +kernel
theorem dX7_item_48 : decode cX7_item 48 = .ok (.ifCond .ne 7, 3) := by decide +kernel
theorem dX7_item_51 : decode cX7_item 51 = .ok (.ldc_w 272, 3) := by decide +kernel
theorem dX7_item_54 : decode cX7_item 54 = .ok (.ireturn, 1) := by decide +kernel
theorem dX7_item_55 : decode cX7_item 55 = .ok (.aload_n 0, 1) := by decide +kernel
theorem dX7_item_56 : decode cX7_item 56 = .ok (.getfield 72, 3) := by decide +kernel
theorem dX7_item_59 : decode cX7_item 59 = .ok (.bipush 24, 2) := by decide +kernel
theorem dX7_item_61 : decode cX7_item 61 = .ok (.iload_n 1, 1) := by decide +kernel
theorem dX7_item_62 : decode cX7_item 62 = .ok (.imul, 1) := by decide +kernel
theorem dX7_item_63 : decode cX7_item 63 = .ok (.iload_n 2, 1) := by decide +kernel
theorem dX7_item_64 : decode cX7_item 64 = .ok (.iadd, 1) := by decide +kernel
theorem dX7_item_65 : decode cX7_item 65 = .ok (.iaload, 1) := by decide +kernel
theorem dX7_item_66 : decode cX7_item 66 = .ok (.istore_n 3, 1) := by decide +kernel
theorem dX7_item_67 : decode cX7_item 67 = .ok (.iload_n 3, 1) := by decide +kernel
theorem dX7_item_68 : decode cX7_item 68 = .ok (.ldc 81, 2) := by decide +kernel
theorem dX7_item_70 : decode cX7_item 70 = .ok (.if_icmp .ne 8, 3) := by decide +kernel
theorem dX7_item_73 : decode cX7_item 73 = .ok (.ldc 132, 2) := by decide +kernel
theorem dX7_item_75 : decode cX7_item 75 = .ok (.goto 4, 3) := by decide +kernel
theorem dX7_item_78 : decode cX7_item 78 = .ok (.iload_n 3, 1) := by decide +kernel
theorem dX7_item_79 : decode cX7_item 79 = .ok (.ireturn, 1) := by decide +kernel
theorem dX7_rest_0 : decode cX7_rest 0 = .ok (.iload_n 1, 1) := by decide +kernel
theorem dX7_rest_1 : decode cX7_rest 1 = .ok (.invokestatic 275, 3) := by decide +kernel
theorem dX7_rest_4 : decode cX7_rest 4 = .ok (.ifCond .ne 6, 3) := by decide +kernel
theorem dX7_rest_7 : decode cX7_rest 7 = .ok (.ldc 86, 2) := by decide +kernel
theorem dX7_rest_9 : decode cX7_rest 9 = .ok (.ireturn, 1) := by decide +kernel
theorem dX7_rest_10 : decode cX7_rest 10 = .ok (.aload_n 0, 1) := by decide +kernel
theorem dX7_rest_11 : decode cX7_rest 11 = .ok (.getfield 63, 3) := by decide +kernel
theorem dX7_rest_14 : decode cX7_rest 14 = .ok (.iload_n 1, 1) := by decide +kernel
theorem dX7_rest_15 : decode cX7_rest 15 = .ok (.iaload, 1) := by decide +kernel
theorem dX7_rest_16 : decode cX7_rest 16 = .ok (.ifCond .ne 6, 3) := by decide +kernel
theorem dX7_rest_19 : decode cX7_rest 19 = .ok (.ldc 195, 2) := by decide +kernel
theorem dX7_rest_21 : decode cX7_rest 21 = .ok (.ireturn, 1) := by decide +kernel
theorem dX7_rest_22 : decode cX7_rest 22 = .ok (.aload_n 0, 1) := by decide +kernel
theorem dX7_rest_23 : decode cX7_rest 23 = .ok (.getfield 63, 3) := by decide +kernel
theorem dX7_rest_26 : decode cX7_rest 26 = .ok (.iload_n 1, 1) := by decide +kernel
theorem dX7_rest_27 : decode cX7_rest 27 = .ok (.iaload, 1) := by decide +kernel
theorem dX7_rest_28 : decode cX7_rest 28 = .ok (.iconst 3, 1) := by decide +kernel
theorem dX7_rest_29 : decode cX7_rest 29 = .ok (.if_icmp .eq 6, 3) := by decide +kernel
theorem dX7_rest_32 : decode cX7_rest 32 = .ok (.ldc 132, 2) := by decide +kernel
theorem dX7_rest_34 : decode cX7_rest 34 = .ok (.ireturn, 1) := by decide +kernel
theorem dX7_rest_35 : decode cX7_rest 35 = .ok (.iload_n 2, 1) := by decide +kernel
theorem dX7_rest_36 : decode cX7_rest 36 = .ok (.ifCond .ne 9, 3) := by decide +kernel
theorem dX7_rest_39 : decode cX7_rest 39 = .ok (.ldc_w 278, 3) := by decide +kernel
theorem dX7_rest_42 : decode cX7_rest 42 = .ok (.goto 20, 3) := by decide +kernel
theorem dX7_rest_45 : decode cX7_rest 45 = .ok (.iload_n 2, 1) := by decide +kernel
theorem dX7_rest_46 : decode cX7_rest 46 = .ok (.iconst (-1), 1) := by decide +kernel
theorem dX7_rest_47 : decode cX7_rest 47 = .ok (.if_icmp .ne 7, 3) := by decide +kernel
theorem dX7_rest_50 : decode cX7_rest 50 = .ok (.iconst 0, 1) := by decide +kernel
theorem dX7_rest_51 : decode cX7_rest 51 = .ok (.goto 11, 3) := by decide +kernel
theorem dX7_rest_54 : decode cX7_rest 54 = .ok (.aload_n 0, 1) := by decide +kernel
theorem dX7_rest_55 : decode cX7_rest 55 = .ok (.getfield 66, 3) := by decide +kernel
theorem dX7_rest_58 : decode cX7_rest 58 = .ok (.iload_n 1, 1) := by decide +kernel
theorem dX7_rest_59 : decode cX7_rest 59 = .ok (.iaload, 1) := by decide +kernel
theorem dX7_rest_60 : decode cX7_rest 60 = .ok (.iload_n 2, 1) := by decide +kernel
theorem dX7_rest_61 : decode cX7_rest 61 = .ok (.irem, 1) := by decide +kernel
theorem dX7_rest_62 : decode cX7_rest 62 = .ok (.ireturn, 1) := by decide +kernel
theorem dX7_tell_0 : decode cX7_tell 0 = .ok (.aload_n 0, 1) := by decide +kernel
theorem dX7_tell_1 : decode cX7_tell 1 = .ok (.getfield 279, 3) := by decide +kernel
theorem dX7_tell_4 : decode cX7_tell 4 = .ok (.bipush 60, 2) := by decide +kernel
theorem dX7_tell_6 : decode cX7_tell 6 = .ok (.if_icmp .ne 6, 3) := by decide +kernel
theorem dX7_tell_9 : decode cX7_tell 9 = .ok (.ldc 87, 2) := by decide +kernel
theorem dX7_tell_11 : decode cX7_tell 11 = .ok (.ireturn, 1) := by decide +kernel
theorem dX7_tell_12 : decode cX7_tell 12 = .ok (.aload_n 0, 1) := by decide +kernel
theorem dX7_tell_13 : decode cX7_tell 13 = .ok (.getfield 78, 3) := by decide +kernel
theorem dX7_tell_16 : decode cX7_tell 16 = .ok (.aload_n 0, 1) := by decide +kernel
theorem dX7_tell_17 : decode cX7_tell 17 = .ok (.getfield 279, 3) := by decide +kernel
theorem dX7_tell_20 : decode cX7_tell 20 = .ok (.iload_n 1, 1) := by decide +kernel
theorem dX7_tell_21 : decode cX7_tell 21 = .ok (.iastore, 1) := by decide +kernel
theorem dX7_tell_22 : decode cX7_tell 22 = .ok (.aload_n 0, 1) := by decide +kernel
theorem dX7_tell_23 : decode cX7_tell 23 = .ok (.dup, 1) := by decide +kernel
theorem dX7_tell_24 : decode cX7_tell 24 = .ok (.getfield 279, 3) := by decide +kernel
theorem dX7_tell_27 : decode cX7_tell 27 = .ok (.iconst 1, 1) := by decide +kernel
theorem dX7_tell_28 : decode cX7_tell 28 = .ok (.iadd, 1) := by decide +kernel
theorem dX7_tell_29 : decode cX7_tell 29 = .ok (.putfield 279, 3) := by decide +kernel
theorem dX7_tell_32 : decode cX7_tell 32 = .ok (.aload_n 0, 1) := by decide +kernel
theorem dX7_tell_33 : decode cX7_tell 33 = .ok (.getfield 279, 3) := by decide +kernel
theorem dX7_tell_36 : decode cX7_tell 36 = .ok (.ireturn, 1) := by decide +kernel
theorem dX7_check_0 : decode cX7_check 0 = .ok (.aload_n 0, 1) := by decide +kernel
theorem dX7_check_1 : decode cX7_check 1 = .ok (.getfield 279, 3) := by decide +kernel
theorem dX7_check_4 : decode cX7_check 4 = .ok (.istore_n 2, 1) := by decide +kernel
theorem dX7_check_5 : decode cX7_check 5 = .ok (.aload_n 0, 1) := by decide +kernel
theorem dX7_check_6 : decode cX7_check 6 = .ok (.iconst 0, 1) := by decide +kernel
theorem dX7_check_7 : decode cX7_check 7 = .ok (.putfield 279, 3) := by decide +kernel
theorem dX7_check_10 : decode cX7_check 10 = .ok (.iload_n 1, 1) := by decide +kernel
theorem dX7_check_11 : decode cX7_check 11 = .ok (.iconst 1, 1) := by decide +kernel
theorem dX7_check_12 : decode cX7_check 12 = .ok (.bipush 30, 2) := by decide +kernel
theorem dX7_check_14 : decode cX7_check 14 = .ok (.invokestatic 82, 3) := by decide +kernel
theorem dX7_check_17 : decode cX7_check 17 = .ok (.ifCond .ne 6, 3) := by decide +kernel
theorem dX7_check_20 : decode cX7_check 20 = .ok (.ldc 86, 2) := by decide +kernel
theorem dX7_check_22 : decode cX7_check 22 = .ok (.ireturn, 1) := by decide +kernel
theorem dX7_check_23 : decode cX7_check 23 = .ok (.aload_n 0, 1) := by decide +kernel
theorem dX7_check_24 : decode cX7_check 24 = .ok (.getfield 282, 3) := by decide +kernel
theorem dX7_check_27 : decode cX7_check 27 = .ok (.ifCond .ne 7, 3) := by decide +kernel
theorem dX7_check_30 : decode cX7_check 30 = .ok (.ldc_w 278, 3) := by decide +kernel
theorem dX7_check_33 : decode cX7_check 33 = .ok (.ireturn, 1) := by decide +kernel
theorem dX7_check_34 : decode cX7_check 34 = .ok (.aload_n 0, 1) := by decide +kernel
theorem dX7_check_35 : decode cX7_check 35 = .ok (.getfield 9, 3) := by decide +kernel
theorem dX7_check_38 : decode cX7_check 38 = .ok (.aload_n 0, 1) := by decide +kernel
theorem dX7_check_39 : decode cX7_check 39 = .ok (.getfield 16, 3) := by decide +kernel
theorem dX7_check_42 : decode cX7_check 42 = .ok (.invokestatic 286, 3) := by decide +kernel
theorem dX7_check_45 : decode cX7_check 45 = .ok (.aload_n 0, 1) := by decide +kernel
theorem dX7_check_46 : decode cX7_check 46 = .ok (.getfield 13, 3) := by decide +kernel
theorem dX7_check_49 : decode cX7_check 49 = .ok (.aload_n 0, 1) := by decide +kernel
theorem dX7_check_50 : decode cX7_check 50 = .ok (.getfield 9, 3) := by decide +kernel
theorem dX7_check_53 : decode cX7_check 53 = .ok (.invokestatic 286, 3) := by decide +kernel
theorem dX7_check_56 : decode cX7_check 56 = .ok (.iconst 2, 1) := by decide +kernel
theorem dX7_check_57 : decode cX7_check 57 = .ok (.sipush 9999, 3) := by decide +kernel
theorem dX7_check_60 : decode cX7_check 60 = .ok (.aload_n 0, 1) := by decide +kernel
theorem dX7_check_61 : decode cX7_check 61 = .ok (.getfield 9, 3) := by decide +kernel
theorem dX7_check_64 : decode cX7_check 64 = .ok (.iconst 3, 1) := by decide +kernel
theorem dX7_check_65 : decode cX7_check 65 = .ok (.iaload, 1) := by decide +kernel
theorem dX7_check_66 : decode cX7_check 66 = .ok (.isub, 1) := by decide +kernel
theorem dX7_check_67 : decode cX7_check 67 = .ok (.iconst 0, 1) := by decide +kernel
theorem dX7_check_68 : decode cX7_check 68 = .ok (.iload_n 1, 1) := by decide +kernel
theorem dX7_check_69 : decode cX7_check 69 = .ok (.invokestatic 103, 3) := by decide +kernel
theorem dX7_check_72 : decode cX7_check 72 = .ok (.imul, 1) := by decide +kernel
theorem dX7_check_73 : decode cX7_check 73 = .ok (.istore_n 3, 1) := by decide +kernel
theorem dX7_check_74 : decode cX7_check 74 = .ok (.iconst 0, 1) := by decide +kernel
theorem dX7_check_75 : decode cX7_check 75 = .ok (.istore 4, 2) := by decide +kernel
theorem dX7_check_77 : decode cX7_check 77 = .ok (.iconst 0, 1) := by decide +kernel
theorem dX7_check_78 : decode cX7_check 78 = .ok (.istore 5, 2) := by decide +kernel
theorem dX7_check_80 : decode cX7_check 80 = .ok (.iconst 2, 1) := by decide +kernel
theorem dX7_check_81 : decode cX7_check 81 = .ok (.iload 5, 2) := by decide +kernel
theorem dX7_check_83 : decode cX7_check 83 = .ok (.imul, 1) := by decide +kernel
theorem dX7_check_84 : decode cX7_check 84 = .ok (.iload_n 3, 1) := by decide +kernel
theorem dX7_check_85 : decode cX7_check 85 = .ok (.if_icmp .ge 95, 3) := by decide +kernel
theorem dX7_check_88 : decode cX7_check 88 = .ok (.iload 4, 2) := by decide +kernel
theorem dX7_check_90 : decode cX7_check 90 = .ok (.iconst 2, 1) := by decide +kernel
theorem dX7_check_91 : decode cX7_check 91 = .ok (.iload 5, 2) := by decide +kernel
theorem dX7_check_93 : decode cX7_check 93 = .ok (.imul, 1) := by decide +kernel
theorem dX7_check_94 : decode cX7_check 94 = .ok (.if_icmp .ne 86, 3) := by decide +kernel
theorem dX7_check_97 : decode cX7_check 97 = .ok (.aload_n 0, 1) := by decide +kernel
theorem dX7_check_98 : decode cX7_check 98 = .ok (.invokevirtual 168, 3) := by decide +kernel
theorem dX7_check_101 : decode cX7_check 101 = .ok (.iload 4, 2) := by decide +kernel
theorem dX7_check_103 : decode cX7_check 103 = .ok (.iload 4, 2) := by decide +kernel
theorem dX7_check_105 : decode cX7_check 105 = .ok (.iload_n 2, 1) := by decide +kernel
theorem dX7_check_106 : decode cX7_check 106 = .ok (.if_icmp .ge 21, 3) := by decide +kernel
theorem dX7_check_109 : decode cX7_check 109 = .ok (.aload_n 0, 1) := by decide +kernel
theorem dX7_check_110 : decode cX7_check 110 = .ok (.getfield 78, 3) := by decide +kernel
theorem dX7_check_113 : decode cX7_check 113 = .ok (.iload 4, 2) := by decide +kernel
theorem dX7_check_115 : decode cX7_check 115 = .ok (.iaload, 1) := by decide +kernel
theorem dX7_check_116 : decode cX7_check 116 = .ok (.aload_n 0, 1) := by decide +kernel
theorem dX7_check_117 : decode cX7_check 117 = .ok (.invokevirtual 174, 3) := by decide +kernel
theorem dX7_check_120 : decode cX7_check 120 = .ok (.if_icmp .ne 7, 3) := by decide +kernel
theorem dX7_check_123 : decode cX7_check 123 = .ok (.iconst 1, 1) := by decide +kernel
theorem dX7_check_124 : decode cX7_check 124 = .ok (.goto 4, 3) := by decide +kernel
theorem dX7_check_127 : decode cX7_check 127 = .ok (.iconst 0, 1) := by decide +kernel
theorem dX7_check_128 : decode cX7_check 128 = .ok (.iadd, 1) := by decide +kernel
theorem dX7_check_129 : decode cX7_check 129 = .ok (.istore 4, 2) := by decide +kernel
theorem dX7_check_131 : decode cX7_check 131 = .ok (.iload 4, 2) := by decide +kernel
theorem dX7_check_133 : decode cX7_check 133 = .ok (.iload 4, 2) := by decide +kernel
theorem dX7_check_135 : decode cX7_check 135 = .ok (.iconst 2, 1) := by decide +kernel
theorem dX7_check_136 : decode cX7_check 136 = .ok (.iload 5, 2) := by decide +kernel
theorem dX7_check_138 : decode cX7_check 138 = .ok (.imul, 1) := by decide +kernel
theorem dX7_check_139 : decode cX7_check 139 = .ok (.iconst 1, 1) := by decide +kernel
theorem dX7_check_140 : decode cX7_check 140 = .ok (.iadd, 1) := by decide +kernel
theorem dX7_check_141 : decode cX7_check 141 = .ok (.if_icmp .ne 29, 3) := by decide +kernel
theorem dX7_check_144 : decode cX7_check 144 = .ok (.iload 4, 2) := by decide +kernel
theorem dX7_check_146 : decode cX7_check 146 = .ok (.iload_n 2, 1) := by decide +kernel
theorem dX7_check_147 : decode cX7_check 147 = .ok (.if_icmp .ge 23, 3) := by decide +kernel
theorem dX7_check_150 : decode cX7_check 150 = .ok (.aload_n 0, 1) := by decide +kernel
theorem dX7_check_151 : decode cX7_check 151 = .ok (.getfield 78, 3) := by decide +kernel
theorem dX7_check_154 : decode cX7_check 154 = .ok (.iload 4, 2) := by decide +kernel
theorem dX7_check_156 : decode cX7_check 156 = .ok (.iaload, 1) := by decide +kernel
theorem dX7_check_157 : decode cX7_check 157 = .ok (.aload_n 0, 1) := by decide +kernel
theorem dX7_check_158 : decode cX7_check 158 = .ok (.getfield 9, 3) := by decide +kernel
theorem dX7_check_161 : decode cX7_check 161 = .ok (.iconst 5, 1) := by decide +kernel
theorem dX7_check_162 : decode cX7_check 162 = .ok (.iaload, 1) := by decide +kernel
theorem dX7_check_163 : decode cX7_check 163 = .ok (.if_icmp .ne 7, 3) := by decide +kernel
theorem dX7_check_166 : decode cX7_check 166 = .ok (.iconst 1, 1) := by decide +kernel
theorem dX7_check_167 : decode cX7_check 167 = .ok (.goto 4, 3) := by decide +kernel
theorem dX7_check_170 : decode cX7_check 170 = .ok (.iconst 0, 1) := by decide +kernel
theorem dX7_check_171 : decode cX7_check 171 = .ok (.iadd, 1) := by decide +kernel
theorem dX7_check_172 : decode cX7_check 172 = .ok (.istore 4, 2) := by decide +kernel
theorem dX7_check_174 : decode cX7_check 174 = .ok (.iinc 5 1, 3) := by decide +kernel
theorem dX7_check_177 : decode cX7_check 177 = .ok (.goto (-97), 3) := by decide +kernel
theorem dX7_check_180 : decode cX7_check 180 = .ok (.aload_n 0, 1) := by decide +kernel
theorem dX7_check_181 : decode cX7_check 181 = .ok (.getfield 16, 3) := by decide +kernel
theorem dX7_check_184 : decode cX7_check 184 = .ok (.aload_n 0, 1) := by decide +kernel
theorem dX7_check_185 : decode cX7_check 185 = .ok (.getfield 9, 3) := by decide +kernel
theorem dX7_check_188 : decode cX7_check 188 = .ok (.invokestatic 286, 3) := by decide +kernel
theorem dX7_check_191 : decode cX7_check 191 = .ok (.iload 4, 2) := by decide +kernel
theorem dX7_check_193 : decode cX7_check 193 = .ok (.iload_n 2, 1) := by decide +kernel
theorem dX7_check_194 : decode cX7_check 194 = .ok (.if_icmp .ne 13, 3) := by decide +kernel
theorem dX7_check_197 : decode cX7_check 197 = .ok (.iload 4, 2) := by decide +kernel
theorem dX7_check_199 : decode cX7_check 199 = .ok (.iload_n 3, 1) := by decide +kernel
theorem dX7_check_200 : decode cX7_check 200 = .ok (.if_icmp .ne 7, 3) := by decide +kernel
theorem dX7_check_203 : decode cX7_check 203 = .ok (.iconst 0, 1) := by decide +kernel
theorem dX7_check_204 : decode cX7_check 204 = .ok (.goto 7, 3) := by decide +kernel
theorem dX7_check_207 : decode cX7_check 207 = .ok (.iconst 1, 1) := by decide +kernel
theorem dX7_check_208 : decode cX7_check 208 = .ok (.iload 4, 2) := by decide +kernel
theorem dX7_check_210 : decode cX7_check 210 = .ok (.iadd, 1) := by decide +kernel
theorem dX7_check_211 : decode cX7_check 211 = .ok (.ireturn, 1) := by decide +kernel
theorem dX7_keep_0 : decode cX7_keep 0 = .ok (.aload_n 0, 1) := by decide +kernel
theorem dX7_keep_1 : decode cX7_keep 1 = .ok (.getfield 9, 3) := by decide +kernel
theorem dX7_keep_4 : decode cX7_keep 4 = .ok (.aload_n 0, 1) := by decide +kernel
theorem dX7_keep_5 : decode cX7_keep 5 = .ok (.getfield 13, 3) := by decide +kernel
theorem dX7_keep_8 : decode cX7_keep 8 = .ok (.invokestatic 286, 3) := by decide +kernel
theorem dX7_keep_11 : decode cX7_keep 11 = .ok (.aload_n 0, 1) := by decide +kernel
theorem dX7_keep_12 : decode cX7_keep 12 = .ok (.iconst 1, 1) := by decide +kernel
theorem dX7_keep_13 : decode cX7_keep 13 = .ok (.putfield 282, 3) := by decide +kernel
theorem dX7_keep_16 : decode cX7_keep 16 = .ok (.aload_n 0, 1) := by decide +kernel
theorem dX7_keep_17 : decode cX7_keep 17 = .ok (.getfield 9, 3) := by decide +kernel
theorem dX7_keep_20 : decode cX7_keep 20 = .ok (.iconst 1, 1) := by decide +kernel
theorem dX7_keep_21 : decode cX7_keep 21 = .ok (.iaload, 1) := by decide +kernel
theorem dX7_keep_22 : decode cX7_keep 22 = .ok (.ireturn, 1) := by decide +kernel
theorem dX7_back_0 : decode cX7_back 0 = .ok (.aload_n 0, 1) := by decide +kernel
theorem dX7_back_1 : decode cX7_back 1 = .ok (.getfield 282, 3) := by decide +kernel
theorem dX7_back_4 : decode cX7_back 4 = .ok (.ifCond .ne 7, 3) := by decide +kernel
theorem dX7_back_7 : decode cX7_back 7 = .ok (.ldc_w 278, 3) := by decide +kernel
theorem dX7_back_10 : decode cX7_back 10 = .ok (.ireturn, 1) := by decide +kernel
theorem dX7_back_11 : decode cX7_back 11 = .ok (.aload_n 0, 1) := by decide +kernel
theorem dX7_back_12 : decode cX7_back 12 = .ok (.getfield 13, 3) := by decide +kernel
theorem dX7_back_15 : decode cX7_back 15 = .ok (.aload_n 0, 1) := by decide +kernel
theorem dX7_back_16 : decode cX7_back 16 = .ok (.getfield 9, 3) := by decide +kernel
theorem dX7_back_19 : decode cX7_back 19 = .ok (.invokestatic 286, 3) := by decide +kernel
theorem dX7_back_22 : decode cX7_back 22 = .ok (.aload_n 0, 1) := by decide +kernel
theorem dX7_back_23 : decode cX7_back 23 = .ok (.getfield 9, 3) := by decide +kernel
theorem dX7_back_26 : decode cX7_back 26 = .ok (.iconst 1, 1) := by decide +kernel
theorem dX7_back_27 : decode cX7_back 27 = .ok (.iaload, 1) := by decide +kernel
theorem dX7_back_28 : decode cX7_back 28 = .ok (.ireturn, 1) := by decide +kernel
theorem dX7_corked_0 : decode cX7_corked 0 = .ok (.iconst 0, 1) := by decide +kernel
theorem dX7_corked_1 : decode cX7_corked 1 = .ok (.istore_n 1, 1) := by decide +kernel
theorem dX7_corked_2 : decode cX7_corked 2 = .ok (.iconst 0, 1) := by decide +kernel
theorem dX7_corked_3 : decode cX7_corked 3 = .ok (.istore_n 2, 1) := by decide +kernel
theorem dX7_corked_4 : decode cX7_corked 4 = .ok (.iload_n 2, 1) := by decide +kernel
theorem dX7_corked_5 : decode cX7_corked 5 = .ok (.aload_n 0, 1) := by decide +kernel
theorem dX7_corked_6 : decode cX7_corked 6 = .ok (.getfield 9, 3) := by decide +kernel
theorem dX7_corked_9 : decode cX7_corked 9 = .ok (.iconst 2, 1) := by decide +kernel
theorem dX7_corked_10 : decode cX7_corked 10 = .ok (.iaload, 1) := by decide +kernel
theorem dX7_corked_11 : decode cX7_corked 11 = .ok (.if_icmp .ge 18, 3) := by decide +kernel
theorem dX7_corked_14 : decode cX7_corked 14 = .ok (.iload_n 1, 1) := by decide +kernel
theorem dX7_corked_15 : decode cX7_corked 15 = .ok (.aload_n 0, 1) := by decide +kernel
theorem dX7_corked_16 : decode cX7_corked 16 = .ok (.iload_n 2, 1) := by decide +kernel
theorem dX7_corked_17 : decode cX7_corked 17 = .ok (.iconst 3, 1) := by decide +kernel
theorem dX7_corked_18 : decode cX7_corked 18 = .ok (.invokevirtual 140, 3) := by decide +kernel
theorem dX7_corked_21 : decode cX7_corked 21 = .ok (.iadd, 1) := by decide +kernel
theorem dX7_corked_22 : decode cX7_corked 22 = .ok (.istore_n 1, 1) := by decide +kernel
theorem dX7_corked_23 : decode cX7_corked 23 = .ok (.iinc 2 1, 3) := by decide +kernel
theorem dX7_corked_26 : decode cX7_corked 26 = .ok (.goto (-22), 3) := by decide +kernel
theorem dX7_corked_29 : decode cX7_corked 29 = .ok (.iload_n 1, 1) := by decide +kernel
theorem dX7_corked_30 : decode cX7_corked 30 = .ok (.ireturn, 1) := by decide +kernel
theorem dX7_count_0 : decode cX7_count 0 = .ok (.iload_n 1, 1) := by decide +kernel
theorem dX7_count_1 : decode cX7_count 1 = .ok (.tableswitch 109 0 8 #[51, 58, 65, 72, 79, 84, 92, 97, 102], 51) := by decide +kernel
theorem dX7_count_52 : decode cX7_count 52 = .ok (.aload_n 0, 1) := by decide +kernel
theorem dX7_count_53 : decode cX7_count 53 = .ok (.getfield 9, 3) := by decide +kernel
theorem dX7_count_56 : decode cX7_count 56 = .ok (.iconst 1, 1) := by decide +kernel
theorem dX7_count_57 : decode cX7_count 57 = .ok (.iaload, 1) := by decide +kernel
theorem dX7_count_58 : decode cX7_count 58 = .ok (.ireturn, 1) := by decide +kernel
theorem dX7_count_59 : decode cX7_count 59 = .ok (.aload_n 0, 1) := by decide +kernel
theorem dX7_count_60 : decode cX7_count 60 = .ok (.getfield 9, 3) := by decide +kernel
theorem dX7_count_63 : decode cX7_count 63 = .ok (.iconst 2, 1) := by decide +kernel
theorem dX7_count_64 : decode cX7_count 64 = .ok (.iaload, 1) := by decide +kernel
theorem dX7_count_65 : decode cX7_count 65 = .ok (.ireturn, 1) := by decide +kernel
theorem dX7_count_66 : decode cX7_count 66 = .ok (.aload_n 0, 1) := by decide +kernel
theorem dX7_count_67 : decode cX7_count 67 = .ok (.getfield 9, 3) := by decide +kernel
theorem dX7_count_70 : decode cX7_count 70 = .ok (.iconst 3, 1) := by decide +kernel
theorem dX7_count_71 : decode cX7_count 71 = .ok (.iaload, 1) := by decide +kernel
theorem dX7_count_72 : decode cX7_count 72 = .ok (.ireturn, 1) := by decide +kernel
theorem dX7_count_73 : decode cX7_count 73 = .ok (.aload_n 0, 1) := by decide +kernel
theorem dX7_count_74 : decode cX7_count 74 = .ok (.getfield 9, 3) := by decide +kernel
theorem dX7_count_77 : decode cX7_count 77 = .ok (.iconst 4, 1) := by decide +kernel
theorem dX7_count_78 : decode cX7_count 78 = .ok (.iaload, 1) := by decide +kernel
theorem dX7_count_79 : decode cX7_count 79 = .ok (.ireturn, 1) := by decide +kernel
theorem dX7_count_80 : decode cX7_count 80 = .ok (.aload_n 0, 1) := by decide +kernel
theorem dX7_count_81 : decode cX7_count 81 = .ok (.invokevirtual 290, 3) := by decide +kernel
theorem dX7_count_84 : decode cX7_count 84 = .ok (.ireturn, 1) := by decide +kernel
theorem dX7_count_85 : decode cX7_count 85 = .ok (.aload_n 0, 1) := by decide +kernel
theorem dX7_count_86 : decode cX7_count 86 = .ok (.getfield 9, 3) := by decide +kernel
theorem dX7_count_89 : decode cX7_count 89 = .ok (.bipush 6, 2) := by decide +kernel
theorem dX7_count_91 : decode cX7_count 91 = .ok (.iaload, 1) := by decide +kernel
theorem dX7_count_92 : decode cX7_count 92 = .ok (.ireturn, 1) := by decide +kernel
theorem dX7_count_93 : decode cX7_count 93 = .ok (.aload_n 0, 1) := by decide +kernel
theorem dX7_count_94 : decode cX7_count 94 = .ok (.getfield 279, 3) := by decide +kernel
theorem dX7_count_97 : decode cX7_count 97 = .ok (.ireturn, 1) := by decide +kernel
theorem dX7_count_98 : decode cX7_count 98 = .ok (.aload_n 0, 1) := by decide +kernel
theorem dX7_count_99 : decode cX7_count 99 = .ok (.getfield 203, 3) := by decide +kernel
theorem dX7_count_102 : decode cX7_count 102 = .ok (.ireturn, 1) := by decide +kernel
theorem dX7_count_103 : decode cX7_count 103 = .ok (.aload_n 0, 1) := by decide +kernel
theorem dX7_count_104 : decode cX7_count 104 = .ok (.getfield 9, 3) := by decide +kernel
theorem dX7_count_107 : decode cX7_count 107 = .ok (.iconst 0, 1) := by decide +kernel
theorem dX7_count_108 : decode cX7_count 108 = .ok (.iaload, 1) := by decide +kernel
theorem dX7_count_109 : decode cX7_count 109 = .ok (.ireturn, 1) := by decide +kernel
theorem dX7_count_110 : decode cX7_count 110 = .ok (.ldc 86, 2) := by decide +kernel
theorem dX7_count_112 : decode cX7_count 112 = .ok (.ireturn, 1) := by decide +kernel
