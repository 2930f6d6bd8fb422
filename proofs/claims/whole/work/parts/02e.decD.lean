theorem dX0_init_0 : decode cX0_init 0 = .ok (.aload_n 0, 1) := by decide +kernel
theorem dX0_init_1 : decode cX0_init 1 = .ok (.aload_n 1, 1) := by decide +kernel
theorem dX0_init_2 : decode cX0_init 2 = .ok (.iload_n 2, 1) := by decide +kernel
theorem dX0_init_3 : decode cX0_init 3 = .ok (.iload_n 3, 1) := by decide +kernel
theorem dX0_init_4 : decode cX0_init 4 = .ok (.iload 4, 2) := by decide +kernel
theorem dX0_init_6 : decode cX0_init 6 = .ok (.iload 5, 2) := by decide +kernel
theorem dX0_init_8 : decode cX0_init 8 = .ok (.invokespecial 1, 3) := by decide +kernel
theorem dX0_init_11 : decode cX0_init 11 = .ok (.aload_n 0, 1) := by decide +kernel
theorem dX0_init_12 : decode cX0_init 12 = .ok (.iload 6, 2) := by decide +kernel
theorem dX0_init_14 : decode cX0_init 14 = .ok (.putfield 7, 3) := by decide +kernel
theorem dX0_init_17 : decode cX0_init 17 = .ok (.aload_n 0, 1) := by decide +kernel
theorem dX0_init_18 : decode cX0_init 18 = .ok (.iload 4, 2) := by decide +kernel
theorem dX0_init_20 : decode cX0_init 20 = .ok (.invokestatic 13, 3) := by decide +kernel
theorem dX0_init_23 : decode cX0_init 23 = .ok (.putfield 19, 3) := by decide +kernel
theorem dX0_init_26 : decode cX0_init 26 = .ok (.aload_n 0, 1) := by decide +kernel
theorem dX0_init_27 : decode cX0_init 27 = .ok (.iload 4, 2) := by decide +kernel
theorem dX0_init_29 : decode cX0_init 29 = .ok (.invokestatic 22, 3) := by decide +kernel
theorem dX0_init_32 : decode cX0_init 32 = .ok (.putfield 25, 3) := by decide +kernel
theorem dX0_init_35 : decode cX0_init 35 = .ok (.return_, 1) := by decide +kernel
theorem dX0_kind_0 : decode cX0_kind 0 = .ok (.iconst 1, 1) := by decide +kernel
theorem dX0_kind_1 : decode cX0_kind 1 = .ok (.ireturn, 1) := by decide +kernel
theorem dX0_mayBeAtOnceWith_0 : decode cX0_mayBeAtOnceWith 0 = .ok (.aload_n 0, 1) := by decide +kernel
theorem dX0_mayBeAtOnceWith_1 : decode cX0_mayBeAtOnceWith 1 = .ok (.getfield 28, 3) := by decide +kernel
theorem dX0_mayBeAtOnceWith_4 : decode cX0_mayBeAtOnceWith 4 = .ok (.aload_n 1, 1) := by decide +kernel
theorem dX0_mayBeAtOnceWith_5 : decode cX0_mayBeAtOnceWith 5 = .ok (.getfield 28, 3) := by decide +kernel
theorem dX0_mayBeAtOnceWith_8 : decode cX0_mayBeAtOnceWith 8 = .ok (.if_icmp .ne 29, 3) := by decide +kernel
theorem dX0_mayBeAtOnceWith_11 : decode cX0_mayBeAtOnceWith 11 = .ok (.aload_n 0, 1) := by decide +kernel
theorem dX0_mayBeAtOnceWith_12 : decode cX0_mayBeAtOnceWith 12 = .ok (.invokevirtual 31, 3) := by decide +kernel
theorem dX0_mayBeAtOnceWith_15 : decode cX0_mayBeAtOnceWith 15 = .ok (.aload_n 1, 1) := by decide +kernel
theorem dX0_mayBeAtOnceWith_16 : decode cX0_mayBeAtOnceWith 16 = .ok (.invokevirtual 35, 3) := by decide +kernel
theorem dX0_mayBeAtOnceWith_19 : decode cX0_mayBeAtOnceWith 19 = .ok (.if_icmp .gt 18, 3) := by decide +kernel
theorem dX0_mayBeAtOnceWith_22 : decode cX0_mayBeAtOnceWith 22 = .ok (.aload_n 1, 1) := by decide +kernel
theorem dX0_mayBeAtOnceWith_23 : decode cX0_mayBeAtOnceWith 23 = .ok (.invokevirtual 31, 3) := by decide +kernel
theorem dX0_mayBeAtOnceWith_26 : decode cX0_mayBeAtOnceWith 26 = .ok (.aload_n 0, 1) := by decide +kernel
theorem dX0_mayBeAtOnceWith_27 : decode cX0_mayBeAtOnceWith 27 = .ok (.invokevirtual 35, 3) := by decide +kernel
theorem dX0_mayBeAtOnceWith_30 : decode cX0_mayBeAtOnceWith 30 = .ok (.if_icmp .gt 7, 3) := by decide +kernel
theorem dX0_mayBeAtOnceWith_33 : decode cX0_mayBeAtOnceWith 33 = .ok (.iconst 1, 1) := by decide +kernel
theorem dX0_mayBeAtOnceWith_34 : decode cX0_mayBeAtOnceWith 34 = .ok (.goto 4, 3) := by decide +kernel
theorem dX0_mayBeAtOnceWith_37 : decode cX0_mayBeAtOnceWith 37 = .ok (.iconst 0, 1) := by decide +kernel
theorem dX0_mayBeAtOnceWith_38 : decode cX0_mayBeAtOnceWith 38 = .ok (.ireturn, 1) := by decide +kernel
theorem dX1_init_0 : decode cX1_init 0 = .ok (.aload_n 0, 1) := by decide +kernel
theorem dX1_init_1 : decode cX1_init 1 = .ok (.invokespecial 1, 3) := by decide +kernel
theorem dX1_init_4 : decode cX1_init 4 = .ok (.aload_n 0, 1) := by decide +kernel
theorem dX1_init_5 : decode cX1_init 5 = .ok (.bipush 7, 2) := by decide +kernel
theorem dX1_init_7 : decode cX1_init 7 = .ok (.newarray .int, 2) := by decide +kernel
theorem dX1_init_9 : decode cX1_init 9 = .ok (.putfield 9, 3) := by decide +kernel
theorem dX1_init_12 : decode cX1_init 12 = .ok (.return_, 1) := by decide +kernel
theorem dX1_find_0 : decode cX1_find 0 = .ok (.aload_n 1, 1) := by decide +kernel
theorem dX1_find_1 : decode cX1_find 1 = .ok (.getfield 13, 3) := by decide +kernel
theorem dX1_find_4 : decode cX1_find 4 = .ok (.getfield 19, 3) := by decide +kernel
theorem dX1_find_7 : decode cX1_find 7 = .ok (.aload_n 2, 1) := by decide +kernel
theorem dX1_find_8 : decode cX1_find 8 = .ok (.getfield 13, 3) := by decide +kernel
theorem dX1_find_11 : decode cX1_find 11 = .ok (.getfield 19, 3) := by decide +kernel
theorem dX1_find_14 : decode cX1_find 14 = .ok (.if_icmp .ne 5, 3) := by decide +kernel
theorem dX1_find_17 : decode cX1_find 17 = .ok (.iconst 0, 1) := by decide +kernel
theorem dX1_find_18 : decode cX1_find 18 = .ok (.ireturn, 1) := by decide +kernel
theorem dX1_find_19 : decode cX1_find 19 = .ok (.aload_n 1, 1) := by decide +kernel
theorem dX1_find_20 : decode cX1_find 20 = .ok (.getfield 25, 3) := by decide +kernel
theorem dX1_find_23 : decode cX1_find 23 = .ok (.aload_n 2, 1) := by decide +kernel
theorem dX1_find_24 : decode cX1_find 24 = .ok (.getfield 28, 3) := by decide +kernel
theorem dX1_find_27 : decode cX1_find 27 = .ok (.imul, 1) := by decide +kernel
theorem dX1_find_28 : decode cX1_find 28 = .ok (.aload_n 1, 1) := by decide +kernel
theorem dX1_find_29 : decode cX1_find 29 = .ok (.getfield 28, 3) := by decide +kernel
theorem dX1_find_32 : decode cX1_find 32 = .ok (.aload_n 2, 1) := by decide +kernel
theorem dX1_find_33 : decode cX1_find 33 = .ok (.getfield 25, 3) := by decide +kernel
theorem dX1_find_36 : decode cX1_find 36 = .ok (.imul, 1) := by decide +kernel
theorem dX1_find_37 : decode cX1_find 37 = .ok (.isub, 1) := by decide +kernel
theorem dX1_find_38 : decode cX1_find 38 = .ok (.istore 4, 2) := by decide +kernel
theorem dX1_find_40 : decode cX1_find 40 = .ok (.iload 4, 2) := by decide +kernel
theorem dX1_find_42 : decode cX1_find 42 = .ok (.invokestatic 31, 3) := by decide +kernel
theorem dX1_find_45 : decode cX1_find 45 = .ok (.ldc 37, 2) := by decide +kernel
theorem dX1_find_47 : decode cX1_find 47 = .ok (.if_icmp .ge 5, 3) := by decide +kernel
theorem dX1_find_50 : decode cX1_find 50 = .ok (.iconst 0, 1) := by decide +kernel
theorem dX1_find_51 : decode cX1_find 51 = .ok (.ireturn, 1) := by decide +kernel
theorem dX1_find_52 : decode cX1_find 52 = .ok (.aload_n 2, 1) := by decide +kernel
theorem dX1_find_53 : decode cX1_find 53 = .ok (.getfield 13, 3) := by decide +kernel
theorem dX1_find_56 : decode cX1_find 56 = .ok (.getfield 38, 3) := by decide +kernel
theorem dX1_find_59 : decode cX1_find 59 = .ok (.aload_n 1, 1) := by decide +kernel
theorem dX1_find_60 : decode cX1_find 60 = .ok (.getfield 13, 3) := by decide +kernel
theorem dX1_find_63 : decode cX1_find 63 = .ok (.getfield 38, 3) := by decide +kernel
theorem dX1_find_66 : decode cX1_find 66 = .ok (.isub, 1) := by decide +kernel
theorem dX1_find_67 : decode cX1_find 67 = .ok (.istore 5, 2) := by decide +kernel
theorem dX1_find_69 : decode cX1_find 69 = .ok (.aload_n 2, 1) := by decide +kernel
theorem dX1_find_70 : decode cX1_find 70 = .ok (.getfield 13, 3) := by decide +kernel
theorem dX1_find_73 : decode cX1_find 73 = .ok (.getfield 41, 3) := by decide +kernel
theorem dX1_find_76 : decode cX1_find 76 = .ok (.aload_n 1, 1) := by decide +kernel
theorem dX1_find_77 : decode cX1_find 77 = .ok (.getfield 13, 3) := by decide +kernel
theorem dX1_find_80 : decode cX1_find 80 = .ok (.getfield 41, 3) := by decide +kernel
theorem dX1_find_83 : decode cX1_find 83 = .ok (.isub, 1) := by decide +kernel
theorem dX1_find_84 : decode cX1_find 84 = .ok (.istore 6, 2) := by decide +kernel
theorem dX1_find_86 : decode cX1_find 86 = .ok (.ldc2_w 44, 3) := by decide +kernel
theorem dX1_find_89 : decode cX1_find 89 = .ok (.iload 5, 2) := by decide +kernel
theorem dX1_find_91 : decode cX1_find 91 = .ok (.aload_n 2, 1) := by decide +kernel
theorem dX1_find_92 : decode cX1_find 92 = .ok (.getfield 28, 3) := by decide +kernel
theorem dX1_find_95 : decode cX1_find 95 = .ok (.imul, 1) := by decide +kernel
theorem dX1_find_96 : decode cX1_find 96 = .ok (.iload 6, 2) := by decide +kernel
theorem dX1_find_98 : decode cX1_find 98 = .ok (.aload_n 2, 1) := by decide +kernel
theorem dX1_find_99 : decode cX1_find 99 = .ok (.getfield 25, 3) := by decide +kernel
theorem dX1_find_102 : decode cX1_find 102 = .ok (.imul, 1) := by decide +kernel
theorem dX1_find_103 : decode cX1_find 103 = .ok (.isub, 1) := by decide +kernel
theorem dX1_find_104 : decode cX1_find 104 = .ok (.i2l, 1) := by decide +kernel
theorem dX1_find_105 : decode cX1_find 105 = .ok (.lmul, 1) := by decide +kernel
theorem dX1_find_106 : decode cX1_find 106 = .ok (.iload 4, 2) := by decide +kernel
theorem dX1_find_108 : decode cX1_find 108 = .ok (.i2l, 1) := by decide +kernel
theorem dX1_find_109 : decode cX1_find 109 = .ok (.ldiv, 1) := by decide +kernel
theorem dX1_find_110 : decode cX1_find 110 = .ok (.lstore 7, 2) := by decide +kernel
theorem dX1_find_112 : decode cX1_find 112 = .ok (.ldc2_w 44, 3) := by decide +kernel
theorem dX1_find_115 : decode cX1_find 115 = .ok (.iload 5, 2) := by decide +kernel
theorem dX1_find_117 : decode cX1_find 117 = .ok (.aload_n 1, 1) := by decide +kernel
theorem dX1_find_118 : decode cX1_find 118 = .ok (.getfield 28, 3) := by decide +kernel
theorem dX1_find_121 : decode cX1_find 121 = .ok (.imul, 1) := by decide +kernel
theorem dX1_find_122 : decode cX1_find 122 = .ok (.iload 6, 2) := by decide +kernel
theorem dX1_find_124 : decode cX1_find 124 = .ok (.aload_n 1, 1) := by decide +kernel
theorem dX1_find_125 : decode cX1_find 125 = .ok (.getfield 25, 3) := by decide +kernel
theorem dX1_find_128 : decode cX1_find 128 = .ok (.imul, 1) := by decide +kernel
theorem dX1_find_129 : decode cX1_find 129 = .ok (.isub, 1) := by decide +kernel
theorem dX1_find_130 : decode cX1_find 130 = .ok (.i2l, 1) := by decide +kernel
theorem dX1_find_131 : decode cX1_find 131 = .ok (.lmul, 1) := by decide +kernel
theorem dX1_find_132 : decode cX1_find 132 = .ok (.iload 4, 2) := by decide +kernel
theorem dX1_find_134 : decode cX1_find 134 = .ok (.i2l, 1) := by decide +kernel
theorem dX1_find_135 : decode cX1_find 135 = .ok (.ldiv, 1) := by decide +kernel
theorem dX1_find_136 : decode cX1_find 136 = .ok (.lstore 9, 2) := by decide +kernel
theorem dX1_find_138 : decode cX1_find 138 = .ok (.lload 7, 2) := by decide +kernel
theorem dX1_find_140 : decode cX1_find 140 = .ok (.lconst 1, 1) := by decide +kernel
theorem dX1_find_141 : decode cX1_find 141 = .ok (.lcmp, 1) := by decide +kernel
theorem dX1_find_142 : decode cX1_find 142 = .ok (.ifCond .lt 28, 3) := by decide +kernel
theorem dX1_find_145 : decode cX1_find 145 = .ok (.lload 7, 2) := by decide +kernel
theorem dX1_find_147 : decode cX1_find 147 = .ok (.ldc2_w 46, 3) := by decide +kernel
theorem dX1_find_150 : decode cX1_find 150 = .ok (.lcmp, 1) := by decide +kernel
theorem dX1_find_151 : decode cX1_find 151 = .ok (.ifCond .gt 19, 3) := by decide +kernel
theorem dX1_find_154 : decode cX1_find 154 = .ok (.lload 9, 2) := by decide +kernel
theorem dX1_find_156 : decode cX1_find 156 = .ok (.lconst 1, 1) := by decide +kernel
theorem dX1_find_157 : decode cX1_find 157 = .ok (.lcmp, 1) := by decide +kernel
theorem dX1_find_158 : decode cX1_find 158 = .ok (.ifCond .lt 12, 3) := by decide +kernel
theorem dX1_find_161 : decode cX1_find 161 = .ok (.lload 9, 2) := by decide +kernel
theorem dX1_find_163 : decode cX1_find 163 = .ok (.ldc2_w 46, 3) := by decide +kernel
theorem dX1_find_166 : decode cX1_find 166 = .ok (.lcmp, 1) := by decide +kernel
theorem dX1_find_167 : decode cX1_find 167 = .ok (.ifCond .le 5, 3) := by decide +kernel
theorem dX1_find_170 : decode cX1_find 170 = .ok (.iconst 0, 1) := by decide +kernel
theorem dX1_find_171 : decode cX1_find 171 = .ok (.ireturn, 1) := by decide +kernel
theorem dX1_find_172 : decode cX1_find 172 = .ok (.aload_n 0, 1) := by decide +kernel
theorem dX1_find_173 : decode cX1_find 173 = .ok (.getfield 9, 3) := by decide +kernel
theorem dX1_find_176 : decode cX1_find 176 = .ok (.iconst 5, 1) := by decide +kernel
theorem dX1_find_177 : decode cX1_find 177 = .ok (.lload 7, 2) := by decide +kernel
theorem dX1_find_179 : decode cX1_find 179 = .ok (.l2i, 1) := by decide +kernel
theorem dX1_find_180 : decode cX1_find 180 = .ok (.iastore, 1) := by decide +kernel
theorem dX1_find_181 : decode cX1_find 181 = .ok (.aload_n 0, 1) := by decide +kernel
theorem dX1_find_182 : decode cX1_find 182 = .ok (.getfield 9, 3) := by decide +kernel
theorem dX1_find_185 : decode cX1_find 185 = .ok (.bipush 6, 2) := by decide +kernel
theorem dX1_find_187 : decode cX1_find 187 = .ok (.lload 9, 2) := by decide +kernel
theorem dX1_find_189 : decode cX1_find 189 = .ok (.l2i, 1) := by decide +kernel
theorem dX1_find_190 : decode cX1_find 190 = .ok (.iastore, 1) := by decide +kernel
theorem dX1_find_191 : decode cX1_find 191 = .ok (.aload_n 0, 1) := by decide +kernel
theorem dX1_find_192 : decode cX1_find 192 = .ok (.aload_n 1, 1) := by decide +kernel
theorem dX1_find_193 : decode cX1_find 193 = .ok (.aload_n 2, 1) := by decide +kernel
theorem dX1_find_194 : decode cX1_find 194 = .ok (.iload_n 3, 1) := by decide +kernel
theorem dX1_find_195 : decode cX1_find 195 = .ok (.invokevirtual 48, 3) := by decide +kernel
theorem dX1_find_198 : decode cX1_find 198 = .ok (.ireturn, 1) := by decide +kernel
theorem dX1_findHeights_0 : decode cX1_findHeights 0 = .ok (.aload_n 0, 1) := by decide +kernel
theorem dX1_findHeights_1 : decode cX1_findHeights 1 = .ok (.getfield 9, 3) := by decide +kernel
theorem dX1_findHeights_4 : decode cX1_findHeights 4 = .ok (.iconst 5, 1) := by decide +kernel
theorem dX1_findHeights_5 : decode cX1_findHeights 5 = .ok (.iaload, 1) := by decide +kernel
theorem dX1_findHeights_6 : decode cX1_findHeights 6 = .ok (.istore 4, 2) := by decide +kernel
theorem dX1_findHeights_8 : decode cX1_findHeights 8 = .ok (.aload_n 0, 1) := by decide +kernel
theorem dX1_findHeights_9 : decode cX1_findHeights 9 = .ok (.getfield 9, 3) := by decide +kernel
theorem dX1_findHeights_12 : decode cX1_findHeights 12 = .ok (.bipush 6, 2) := by decide +kernel
theorem dX1_findHeights_14 : decode cX1_findHeights 14 = .ok (.iaload, 1) := by decide +kernel
theorem dX1_findHeights_15 : decode cX1_findHeights 15 = .ok (.istore 5, 2) := by decide +kernel
theorem dX1_findHeights_17 : decode cX1_findHeights 17 = .ok (.iload 4, 2) := by decide +kernel
theorem dX1_findHeights_19 : decode cX1_findHeights 19 = .ok (.aload_n 1, 1) := by decide +kernel
theorem dX1_findHeights_20 : decode cX1_findHeights 20 = .ok (.getfield 52, 3) := by decide +kernel
theorem dX1_findHeights_23 : decode cX1_findHeights 23 = .ok (.invokestatic 55, 3) := by decide +kernel
theorem dX1_findHeights_26 : decode cX1_findHeights 26 = .ok (.istore 6, 2) := by decide +kernel
theorem dX1_findHeights_28 : decode cX1_findHeights 28 = .ok (.iload 5, 2) := by decide +kernel
theorem dX1_findHeights_30 : decode cX1_findHeights 30 = .ok (.aload_n 2, 1) := by decide +kernel
theorem dX1_findHeights_31 : decode cX1_findHeights 31 = .ok (.getfield 52, 3) := by decide +kernel
theorem dX1_findHeights_34 : decode cX1_findHeights 34 = .ok (.invokestatic 55, 3) := by decide +kernel
theorem dX1_findHeights_37 : decode cX1_findHeights 37 = .ok (.istore 7, 2) := by decide +kernel
theorem dX1_findHeights_39 : decode cX1_findHeights 39 = .ok (.iload 6, 2) := by decide +kernel
theorem dX1_findHeights_41 : decode cX1_findHeights 41 = .ok (.iload 7, 2) := by decide +kernel
theorem dX1_findHeights_43 : decode cX1_findHeights 43 = .ok (.isub, 1) := by decide +kernel
theorem dX1_findHeights_44 : decode cX1_findHeights 44 = .ok (.invokestatic 31, 3) := by decide +kernel
theorem dX1_findHeights_47 : decode cX1_findHeights 47 = .ok (.iload_n 3, 1) := by decide +kernel
theorem dX1_findHeights_48 : decode cX1_findHeights 48 = .ok (.if_icmp .le 5, 3) := by decide +kernel
theorem dX1_findHeights_51 : decode cX1_findHeights 51 = .ok (.iconst 0, 1) := by decide +kernel
theorem dX1_findHeights_52 : decode cX1_findHeights 52 = .ok (.ireturn, 1) := by decide +kernel
theorem dX1_findHeights_53 : decode cX1_findHeights 53 = .ok (.aload_n 0, 1) := by decide +kernel
theorem dX1_findHeights_54 : decode cX1_findHeights 54 = .ok (.getfield 9, 3) := by decide +kernel
theorem dX1_findHeights_57 : decode cX1_findHeights 57 = .ok (.iconst 0, 1) := by decide +kernel
theorem dX1_findHeights_58 : decode cX1_findHeights 58 = .ok (.aload_n 1, 1) := by decide +kernel
theorem dX1_findHeights_59 : decode cX1_findHeights 59 = .ok (.getfield 13, 3) := by decide +kernel
theorem dX1_findHeights_62 : decode cX1_findHeights 62 = .ok (.getfield 38, 3) := by decide +kernel
theorem dX1_findHeights_65 : decode cX1_findHeights 65 = .ok (.iload 4, 2) := by decide +kernel
theorem dX1_findHeights_67 : decode cX1_findHeights 67 = .ok (.aload_n 1, 1) := by decide +kernel
theorem dX1_findHeights_68 : decode cX1_findHeights 68 = .ok (.getfield 25, 3) := by decide +kernel
theorem dX1_findHeights_71 : decode cX1_findHeights 71 = .ok (.imul, 1) := by decide +kernel
theorem dX1_findHeights_72 : decode cX1_findHeights 72 = .ok (.sipush 1000, 3) := by decide +kernel
theorem dX1_findHeights_75 : decode cX1_findHeights 75 = .ok (.idiv, 1) := by decide +kernel
theorem dX1_findHeights_76 : decode cX1_findHeights 76 = .ok (.iadd, 1) := by decide +kernel
theorem dX1_findHeights_77 : decode cX1_findHeights 77 = .ok (.iastore, 1) := by decide +kernel
theorem dX1_findHeights_78 : decode cX1_findHeights 78 = .ok (.aload_n 0, 1) := by decide +kernel
theorem dX1_findHeights_79 : decode cX1_findHeights 79 = .ok (.getfield 9, 3) := by decide +kernel
theorem dX1_findHeights_82 : decode cX1_findHeights 82 = .ok (.iconst 1, 1) := by decide +kernel
theorem dX1_findHeights_83 : decode cX1_findHeights 83 = .ok (.aload_n 1, 1) := by decide +kernel
theorem dX1_findHeights_84 : decode cX1_findHeights 84 = .ok (.getfield 13, 3) := by decide +kernel
theorem dX1_findHeights_87 : decode cX1_findHeights 87 = .ok (.getfield 41, 3) := by decide +kernel
theorem dX1_findHeights_90 : decode cX1_findHeights 90 = .ok (.iload 4, 2) := by decide +kernel
theorem dX1_findHeights_92 : decode cX1_findHeights 92 = .ok (.aload_n 1, 1) := by decide +kernel
theorem dX1_findHeights_93 : decode cX1_findHeights 93 = .ok (.getfield 28, 3) := by decide +kernel
theorem dX1_findHeights_96 : decode cX1_findHeights 96 = .ok (.imul, 1) := by decide +kernel
theorem dX1_findHeights_97 : decode cX1_findHeights 97 = .ok (.sipush 1000, 3) := by decide +kernel
theorem dX1_findHeights_100 : decode cX1_findHeights 100 = .ok (.idiv, 1) := by decide +kernel
theorem dX1_findHeights_101 : decode cX1_findHeights 101 = .ok (.iadd, 1) := by decide +kernel
theorem dX1_findHeights_102 : decode cX1_findHeights 102 = .ok (.iastore, 1) := by decide +kernel
theorem dX1_findHeights_103 : decode cX1_findHeights 103 = .ok (.aload_n 0, 1) := by decide +kernel
theorem dX1_findHeights_104 : decode cX1_findHeights 104 = .ok (.getfield 9, 3) := by decide +kernel
theorem dX1_findHeights_107 : decode cX1_findHeights 107 = .ok (.iconst 2, 1) := by decide +kernel
theorem dX1_findHeights_108 : decode cX1_findHeights 108 = .ok (.iload 6, 2) := by decide +kernel
theorem dX1_findHeights_110 : decode cX1_findHeights 110 = .ok (.iload 7, 2) := by decide +kernel
theorem dX1_findHeights_112 : decode cX1_findHeights 112 = .ok (.iadd, 1) := by decide +kernel
theorem dX1_findHeights_113 : decode cX1_findHeights 113 = .ok (.iconst 2, 1) := by decide +kernel
theorem dX1_findHeights_114 : decode cX1_findHeights 114 = .ok (.idiv, 1) := by decide +kernel
theorem dX1_findHeights_115 : decode cX1_findHeights 115 = .ok (.iastore, 1) := by decide +kernel
theorem dX1_findHeights_116 : decode cX1_findHeights 116 = .ok (.aload_n 0, 1) := by decide +kernel
theorem dX1_findHeights_117 : decode cX1_findHeights 117 = .ok (.getfield 9, 3) := by decide +kernel
theorem dX1_findHeights_120 : decode cX1_findHeights 120 = .ok (.iconst 3, 1) := by decide +kernel
theorem dX1_findHeights_121 : decode cX1_findHeights 121 = .ok (.iload 4, 2) := by decide +kernel
theorem dX1_findHeights_123 : decode cX1_findHeights 123 = .ok (.aload_n 1, 1) := by decide +kernel
theorem dX1_findHeights_124 : decode cX1_findHeights 124 = .ok (.getfield 52, 3) := by decide +kernel
theorem dX1_findHeights_127 : decode cX1_findHeights 127 = .ok (.iconst 1, 1) := by decide +kernel
theorem dX1_findHeights_128 : decode cX1_findHeights 128 = .ok (.isub, 1) := by decide +kernel
theorem dX1_findHeights_129 : decode cX1_findHeights 129 = .ok (.invokestatic 55, 3) := by decide +kernel
theorem dX1_findHeights_132 : decode cX1_findHeights 132 = .ok (.iload 5, 2) := by decide +kernel
theorem dX1_findHeights_134 : decode cX1_findHeights 134 = .ok (.aload_n 2, 1) := by decide +kernel
theorem dX1_findHeights_135 : decode cX1_findHeights 135 = .ok (.getfield 52, 3) := by decide +kernel
theorem dX1_findHeights_138 : decode cX1_findHeights 138 = .ok (.iconst 1, 1) := by decide +kernel
theorem dX1_findHeights_139 : decode cX1_findHeights 139 = .ok (.isub, 1) := by decide +kernel
theorem dX1_findHeights_140 : decode cX1_findHeights 140 = .ok (.invokestatic 55, 3) := by decide +kernel
theorem dX1_findHeights_143 : decode cX1_findHeights 143 = .ok (.invokestatic 59, 3) := by decide +kernel
theorem dX1_findHeights_146 : decode cX1_findHeights 146 = .ok (.iastore, 1) := by decide +kernel
theorem dX1_findHeights_147 : decode cX1_findHeights 147 = .ok (.aload_n 0, 1) := by decide +kernel
theorem dX1_findHeights_148 : decode cX1_findHeights 148 = .ok (.getfield 9, 3) := by decide +kernel
theorem dX1_findHeights_151 : decode cX1_findHeights 151 = .ok (.iconst 4, 1) := by decide +kernel
theorem dX1_findHeights_152 : decode cX1_findHeights 152 = .ok (.iload 4, 2) := by decide +kernel
theorem dX1_findHeights_154 : decode cX1_findHeights 154 = .ok (.aload_n 1, 1) := by decide +kernel
theorem dX1_findHeights_155 : decode cX1_findHeights 155 = .ok (.getfield 52, 3) := by decide +kernel
theorem dX1_findHeights_158 : decode cX1_findHeights 158 = .ok (.iconst 1, 1) := by decide +kernel
theorem dX1_findHeights_159 : decode cX1_findHeights 159 = .ok (.iadd, 1) := by decide +kernel
theorem dX1_findHeights_160 : decode cX1_findHeights 160 = .ok (.invokestatic 55, 3) := by decide +kernel
theorem dX1_findHeights_163 : decode cX1_findHeights 163 = .ok (.iload 5, 2) := by decide +kernel
theorem dX1_findHeights_165 : decode cX1_findHeights 165 = .ok (.aload_n 2, 1) := by decide +kernel
theorem dX1_findHeights_166 : decode cX1_findHeights 166 = .ok (.getfield 52, 3) := by decide +kernel
theorem dX1_findHeights_169 : decode cX1_findHeights 169 = .ok (.iconst 1, 1) := by decide +kernel
theorem dX1_findHeights_170 : decode cX1_findHeights 170 = .ok (.iadd, 1) := by decide +kernel
theorem dX1_findHeights_171 : decode cX1_findHeights 171 = .ok (.invokestatic 55, 3) := by decide +kernel
theorem dX1_findHeights_174 : decode cX1_findHeights 174 = .ok (.invokestatic 62, 3) := by decide +kernel
theorem dX1_findHeights_177 : decode cX1_findHeights 177 = .ok (.iastore, 1) := by decide +kernel
theorem dX1_findHeights_178 : decode cX1_findHeights 178 = .ok (.iconst 1, 1) := by decide +kernel
theorem dX1_findHeights_179 : decode cX1_findHeights 179 = .ok (.ireturn, 1) := by decide +kernel
theorem dX1_rise_0 : decode cX1_rise 0 = .ok (.iload_n 1, 1) := by decide +kernel
theorem dX1_rise_1 : decode cX1_rise 1 = .ok (.iconst 1, 1) := by decide +kernel
theorem dX1_rise_2 : decode cX1_rise 2 = .ok (.if_icmp .lt 23, 3) := by decide +kernel
theorem dX1_rise_5 : decode cX1_rise 5 = .ok (.iload_n 1, 1) := by decide +kernel
theorem dX1_rise_6 : decode cX1_rise 6 = .ok (.bipush 89, 2) := by decide +kernel
theorem dX1_rise_8 : decode cX1_rise 8 = .ok (.if_icmp .gt 17, 3) := by decide +kernel
theorem dX1_rise_11 : decode cX1_rise 11 = .ok (.iload_n 0, 1) := by decide +kernel
theorem dX1_rise_12 : decode cX1_rise 12 = .ok (.getstatic 65, 3) := by decide +kernel
theorem dX1_rise_15 : decode cX1_rise 15 = .ok (.iload_n 1, 1) := by decide +kernel
theorem dX1_rise_16 : decode cX1_rise 16 = .ok (.iaload, 1) := by decide +kernel
theorem dX1_rise_17 : decode cX1_rise 17 = .ok (.imul, 1) := by decide +kernel
theorem dX1_rise_18 : decode cX1_rise 18 = .ok (.sipush 1000, 3) := by decide +kernel
theorem dX1_rise_21 : decode cX1_rise 21 = .ok (.idiv, 1) := by decide +kernel
theorem dX1_rise_22 : decode cX1_rise 22 = .ok (.goto 4, 3) := by decide +kernel
theorem dX1_rise_25 : decode cX1_rise 25 = .ok (.iconst 0, 1) := by decide +kernel
theorem dX1_rise_26 : decode cX1_rise 26 = .ok (.ireturn, 1) := by decide +kernel
theorem dX2_init_0 : decode cX2_init 0 = .ok (.aload_n 0, 1) := by decide +kernel
theorem dX2_init_1 : decode cX2_init 1 = .ok (.invokespecial 3, 3) := by decide +kernel
theorem dX2_init_4 : decode cX2_init 4 = .ok (.return_, 1) := by decide +kernel
theorem dX2_clear_0 : decode cX2_clear 0 = .ok (.aload_n 0, 1) := by decide +kernel
theorem dX2_clear_1 : decode cX2_clear 1 = .ok (.iconst 0, 1) := by decide +kernel
theorem dX2_clear_2 : decode cX2_clear 2 = .ok (.putfield 9, 3) := by decide +kernel
theorem dX2_clear_5 : decode cX2_clear 5 = .ok (.aload_n 0, 1) := by decide +kernel
theorem dX2_clear_6 : decode cX2_clear 6 = .ok (.iconst 0, 1) := by decide +kernel
theorem dX2_clear_7 : decode cX2_clear 7 = .ok (.putfield 15, 3) := by decide +kernel
theorem dX2_clear_10 : decode cX2_clear 10 = .ok (.aload_n 0, 1) := by decide +kernel
theorem dX2_clear_11 : decode cX2_clear 11 = .ok (.iconst 0, 1) := by decide +kernel
theorem dX2_clear_12 : decode cX2_clear 12 = .ok (.putfield 18, 3) := by decide +kernel
theorem dX2_clear_15 : decode cX2_clear 15 = .ok (.aload_n 0, 1) := by decide +kernel
theorem dX2_clear_16 : decode cX2_clear 16 = .ok (.iconst 0, 1) := by decide +kernel
theorem dX2_clear_17 : decode cX2_clear 17 = .ok (.putfield 21, 3) := by decide +kernel
theorem dX2_clear_20 : decode cX2_clear 20 = .ok (.aload_n 0, 1) := by decide +kernel
theorem dX2_clear_21 : decode cX2_clear 21 = .ok (.iconst 0, 1) := by decide +kernel
theorem dX2_clear_22 : decode cX2_clear 22 = .ok (.putfield 24, 3) := by decide +kernel
theorem dX2_clear_25 : decode cX2_clear 25 = .ok (.aload_n 0, 1) := by decide +kernel
theorem dX2_clear_26 : decode cX2_clear 26 = .ok (.bipush (-4), 2) := by decide +kernel
theorem dX2_clear_28 : decode cX2_clear 28 = .ok (.putfield 27, 3) := by decide +kernel
theorem dX2_clear_31 : decode cX2_clear 31 = .ok (.return_, 1) := by decide +kernel
theorem dX2_take_0 : decode cX2_take 0 = .ok (.aload_n 0, 1) := by decide +kernel
theorem dX2_take_1 : decode cX2_take 1 = .ok (.getfield 9, 3) := by decide +kernel
theorem dX2_take_4 : decode cX2_take 4 = .ok (.ifCond .ne 7, 3) := by decide +kernel
theorem dX2_take_7 : decode cX2_take 7 = .ok (.iconst 1, 1) := by decide +kernel
theorem dX2_take_8 : decode cX2_take 8 = .ok (.goto 4, 3) := by decide +kernel
theorem dX2_take_11 : decode cX2_take 11 = .ok (.iconst 0, 1) := by decide +kernel
theorem dX2_take_12 : decode cX2_take 12 = .ok (.istore_n 3, 1) := by decide +kernel
theorem dX2_take_13 : decode cX2_take 13 = .ok (.aload_n 0, 1) := by decide +kernel
theorem dX2_take_14 : decode cX2_take 14 = .ok (.iload_n 3, 1) := by decide +kernel
theorem dX2_take_15 : decode cX2_take 15 = .ok (.ifCond .eq 7, 3) := by decide +kernel
theorem dX2_take_18 : decode cX2_take 18 = .ok (.iload_n 1, 1) := by decide +kernel
theorem dX2_take_19 : decode cX2_take 19 = .ok (.goto 7, 3) := by decide +kernel
theorem dX2_take_22 : decode cX2_take 22 = .ok (.aload_n 0, 1) := by decide +kernel
theorem dX2_take_23 : decode cX2_take 23 = .ok (.getfield 30, 3) := by decide +kernel
theorem dX2_take_26 : decode cX2_take 26 = .ok (.putfield 30, 3) := by decide +kernel
theorem dX2_take_29 : decode cX2_take 29 = .ok (.aload_n 0, 1) := by decide +kernel
theorem dX2_take_30 : decode cX2_take 30 = .ok (.iload_n 3, 1) := by decide +kernel
theorem dX2_take_31 : decode cX2_take 31 = .ok (.ifCond .eq 10, 3) := by decide +kernel
theorem dX2_take_34 : decode cX2_take 34 = .ok (.aload_n 2, 1) := by decide +kernel
theorem dX2_take_35 : decode cX2_take 35 = .ok (.invokevirtual 33, 3) := by decide +kernel
theorem dX2_take_38 : decode cX2_take 38 = .ok (.goto 14, 3) := by decide +kernel
theorem dX2_take_41 : decode cX2_take 41 = .ok (.aload_n 0, 1) := by decide +kernel
theorem dX2_take_42 : decode cX2_take 42 = .ok (.getfield 39, 3) := by decide +kernel
theorem dX2_take_45 : decode cX2_take 45 = .ok (.aload_n 2, 1) := by decide +kernel
theorem dX2_take_46 : decode cX2_take 46 = .ok (.invokevirtual 33, 3) := by decide +kernel
theorem dX2_take_49 : decode cX2_take 49 = .ok (.invokestatic 42, 3) := by decide +kernel
theorem dX2_take_52 : decode cX2_take 52 = .ok (.putfield 39, 3) := by decide +kernel
theorem dX2_take_55 : decode cX2_take 55 = .ok (.aload_n 0, 1) := by decide +kernel
theorem dX2_take_56 : decode cX2_take 56 = .ok (.iload_n 3, 1) := by decide +kernel
theorem dX2_take_57 : decode cX2_take 57 = .ok (.ifCond .eq 10, 3) := by decide +kernel
theorem dX2_take_60 : decode cX2_take 60 = .ok (.aload_n 2, 1) := by decide +kernel
theorem dX2_take_61 : decode cX2_take 61 = .ok (.invokevirtual 48, 3) := by decide +kernel
theorem dX2_take_64 : decode cX2_take 64 = .ok (.goto 14, 3) := by decide +kernel
theorem dX2_take_67 : decode cX2_take 67 = .ok (.aload_n 0, 1) := by decide +kernel
theorem dX2_take_68 : decode cX2_take 68 = .ok (.getfield 51, 3) := by decide +kernel
theorem dX2_take_71 : decode cX2_take 71 = .ok (.aload_n 2, 1) := by decide +kernel
theorem dX2_take_72 : decode cX2_take 72 = .ok (.invokevirtual 48, 3) := by decide +kernel
theorem dX2_take_75 : decode cX2_take 75 = .ok (.invokestatic 54, 3) := by decide +kernel
theorem dX2_take_78 : decode cX2_take 78 = .ok (.putfield 51, 3) := by decide +kernel
theorem dX2_take_81 : decode cX2_take 81 = .ok (.aload_n 0, 1) := by decide +kernel
theorem dX2_take_82 : decode cX2_take 82 = .ok (.dup, 1) := by decide +kernel
theorem dX2_take_83 : decode cX2_take 83 = .ok (.getfield 9, 3) := by decide +kernel
theorem dX2_take_86 : decode cX2_take 86 = .ok (.iconst 1, 1) := by decide +kernel
theorem dX2_take_87 : decode cX2_take 87 = .ok (.iadd, 1) := by decide +kernel
theorem dX2_take_88 : decode cX2_take 88 = .ok (.putfield 9, 3) := by decide +kernel
theorem dX2_take_91 : decode cX2_take 91 = .ok (.return_, 1) := by decide +kernel
theorem dX2_takePair_0 : decode cX2_takePair 0 = .ok (.aload_n 0, 1) := by decide +kernel
theorem dX2_takePair_1 : decode cX2_takePair 1 = .ok (.dup, 1) := by decide +kernel
theorem dX2_takePair_2 : decode cX2_takePair 2 = .ok (.getfield 15, 3) := by decide +kernel
theorem dX2_takePair_5 : decode cX2_takePair 5 = .ok (.iconst 1, 1) := by decide +kernel
theorem dX2_takePair_6 : decode cX2_takePair 6 = .ok (.iadd, 1) := by decide +kernel
theorem dX2_takePair_7 : decode cX2_takePair 7 = .ok (.putfield 15, 3) := by decide +kernel
theorem dX2_takePair_10 : decode cX2_takePair 10 = .ok (.aload_n 0, 1) := by decide +kernel
theorem dX2_takePair_11 : decode cX2_takePair 11 = .ok (.dup, 1) := by decide +kernel
theorem dX2_takePair_12 : decode cX2_takePair 12 = .ok (.getfield 18, 3) := by decide +kernel
theorem dX2_takePair_15 : decode cX2_takePair 15 = .ok (.aload_n 1, 1) := by decide +kernel
theorem dX2_takePair_16 : decode cX2_takePair 16 = .ok (.iconst 0, 1) := by decide +kernel
theorem dX2_takePair_17 : decode cX2_takePair 17 = .ok (.iaload, 1) := by decide +kernel
theorem dX2_takePair_18 : decode cX2_takePair 18 = .ok (.iadd, 1) := by decide +kernel
theorem dX2_takePair_19 : decode cX2_takePair 19 = .ok (.putfield 18, 3) := by decide +kernel
theorem dX2_takePair_22 : decode cX2_takePair 22 = .ok (.aload_n 0, 1) := by decide +kernel
theorem dX2_takePair_23 : decode cX2_takePair 23 = .ok (.dup, 1) := by decide +kernel
theorem dX2_takePair_24 : decode cX2_takePair 24 = .ok (.getfield 21, 3) := by decide +kernel
theorem dX2_takePair_27 : decode cX2_takePair 27 = .ok (.aload_n 1, 1) := by decide +kernel
theorem dX2_takePair_28 : decode cX2_takePair 28 = .ok (.iconst 1, 1) := by decide +kernel
theorem dX2_takePair_29 : decode cX2_takePair 29 = .ok (.iaload, 1) := by decide +kernel
theorem dX2_takePair_30 : decode cX2_takePair 30 = .ok (.iadd, 1) := by decide +kernel
theorem dX2_takePair_31 : decode cX2_takePair 31 = .ok (.putfield 21, 3) := by decide +kernel
theorem dX2_takePair_34 : decode cX2_takePair 34 = .ok (.aload_n 0, 1) := by decide +kernel
theorem dX2_takePair_35 : decode cX2_takePair 35 = .ok (.dup, 1) := by decide +kernel
theorem dX2_takePair_36 : decode cX2_takePair 36 = .ok (.getfield 24, 3) := by decide +kernel
theorem dX2_takePair_39 : decode cX2_takePair 39 = .ok (.aload_n 1, 1) := by decide +kernel
theorem dX2_takePair_40 : decode cX2_takePair 40 = .ok (.iconst 2, 1) := by decide +kernel
theorem dX2_takePair_41 : decode cX2_takePair 41 = .ok (.iaload, 1) := by decide +kernel
theorem dX2_takePair_42 : decode cX2_takePair 42 = .ok (.iadd, 1) := by decide +kernel
theorem dX2_takePair_43 : decode cX2_takePair 43 = .ok (.putfield 24, 3) := by decide +kernel
theorem dX2_takePair_46 : decode cX2_takePair 46 = .ok (.return_, 1) := by decide +kernel
theorem dX2_finish_0 : decode cX2_finish 0 = .ok (.aload_n 0, 1) := by decide +kernel
theorem dX2_finish_1 : decode cX2_finish 1 = .ok (.aload_n 0, 1) := by decide +kernel
theorem dX2_finish_2 : decode cX2_finish 2 = .ok (.getfield 39, 3) := by decide +kernel
theorem dX2_finish_5 : decode cX2_finish 5 = .ok (.aload_n 0, 1) := by decide +kernel
theorem dX2_finish_6 : decode cX2_finish 6 = .ok (.getfield 51, 3) := by decide +kernel
theorem dX2_finish_9 : decode cX2_finish 9 = .ok (.iadd, 1) := by decide +kernel
theorem dX2_finish_10 : decode cX2_finish 10 = .ok (.iconst 2, 1) := by decide +kernel
theorem dX2_finish_11 : decode cX2_finish 11 = .ok (.invokestatic 59, 3) := by decide +kernel
theorem dX2_finish_14 : decode cX2_finish 14 = .ok (.putfield 62, 3) := by decide +kernel
theorem dX2_finish_17 : decode cX2_finish 17 = .ok (.aload_n 0, 1) := by decide +kernel
theorem dX2_finish_18 : decode cX2_finish 18 = .ok (.getfield 15, 3) := by decide +kernel
theorem dX2_finish_21 : decode cX2_finish 21 = .ok (.ifCond .le 42, 3) := by decide +kernel
theorem dX2_finish_24 : decode cX2_finish 24 = .ok (.aload_n 0, 1) := by decide +kernel
theorem dX2_finish_25 : decode cX2_finish 25 = .ok (.dup, 1) := by decide +kernel
theorem dX2_finish_26 : decode cX2_finish 26 = .ok (.getfield 18, 3) := by decide +kernel
theorem dX2_finish_29 : decode cX2_finish 29 = .ok (.aload_n 0, 1) := by decide +kernel
theorem dX2_finish_30 : decode cX2_finish 30 = .ok (.getfield 15, 3) := by decide +kernel
theorem dX2_finish_33 : decode cX2_finish 33 = .ok (.idiv, 1) := by decide +kernel
theorem dX2_finish_34 : decode cX2_finish 34 = .ok (.putfield 18, 3) := by decide +kernel
theorem dX2_finish_37 : decode cX2_finish 37 = .ok (.aload_n 0, 1) := by decide +kernel
theorem dX2_finish_38 : decode cX2_finish 38 = .ok (.dup, 1) := by decide +kernel
theorem dX2_finish_39 : decode cX2_finish 39 = .ok (.getfield 21, 3) := by decide +kernel
theorem dX2_finish_42 : decode cX2_finish 42 = .ok (.aload_n 0, 1) := by decide +kernel
theorem dX2_finish_43 : decode cX2_finish 43 = .ok (.getfield 15, 3) := by decide +kernel
theorem dX2_finish_46 : decode cX2_finish 46 = .ok (.idiv, 1) := by decide +kernel
theorem dX2_finish_47 : decode cX2_finish 47 = .ok (.putfield 21, 3) := by decide +kernel
theorem dX2_finish_50 : decode cX2_finish 50 = .ok (.aload_n 0, 1) := by decide +kernel
theorem dX2_finish_51 : decode cX2_finish 51 = .ok (.dup, 1) := by decide +kernel
theorem dX2_finish_52 : decode cX2_finish 52 = .ok (.getfield 24, 3) := by decide +kernel
theorem dX2_finish_55 : decode cX2_finish 55 = .ok (.aload_n 0, 1) := by decide +kernel
theorem dX2_finish_56 : decode cX2_finish 56 = .ok (.getfield 15, 3) := by decide +kernel
theorem dX2_finish_59 : decode cX2_finish 59 = .ok (.idiv, 1) := by decide +kernel
theorem dX2_finish_60 : decode cX2_finish 60 = .ok (.putfield 24, 3) := by decide +kernel
theorem dX2_finish_63 : decode cX2_finish 63 = .ok (.return_, 1) := by decide +kernel
theorem dX2_hasPlace_0 : decode cX2_hasPlace 0 = .ok (.aload_n 0, 1) := by decide +kernel
theorem dX2_hasPlace_1 : decode cX2_hasPlace 1 = .ok (.getfield 15, 3) := by decide +kernel
theorem dX2_hasPlace_4 : decode cX2_hasPlace 4 = .ok (.ifCond .le 7, 3) := by decide +kernel
theorem dX2_hasPlace_7 : decode cX2_hasPlace 7 = .ok (.iconst 1, 1) := by decide +kernel
theorem dX2_hasPlace_8 : decode cX2_hasPlace 8 = .ok (.goto 4, 3) := by decide +kernel
theorem dX2_hasPlace_11 : decode cX2_hasPlace 11 = .ok (.iconst 0, 1) := by decide +kernel
theorem dX2_hasPlace_12 : decode cX2_hasPlace 12 = .ok (.ireturn, 1) := by decide +kernel
theorem dX2_answer_0 : decode cX2_answer 0 = .ok (.iload_n 1, 1) := by decide +kernel
theorem dX2_answer_1 : decode cX2_answer 1 = .ok (.tableswitch 60 0 4 #[35, 40, 45, 50, 55], 35) := by decide +kernel
theorem dX2_answer_36 : decode cX2_answer 36 = .ok (.aload_n 0, 1) := by decide +kernel
theorem dX2_answer_37 : decode cX2_answer 37 = .ok (.getfield 9, 3) := by decide +kernel
theorem dX2_answer_40 : decode cX2_answer 40 = .ok (.ireturn, 1) := by decide +kernel
theorem dX2_answer_41 : decode cX2_answer 41 = .ok (.aload_n 0, 1) := by decide +kernel
theorem dX2_answer_42 : decode cX2_answer 42 = .ok (.getfield 62, 3) := by decide +kernel
theorem dX2_answer_45 : decode cX2_answer 45 = .ok (.ireturn, 1) := by decide +kernel
theorem dX2_answer_46 : decode cX2_answer 46 = .ok (.aload_n 0, 1) := by decide +kernel
theorem dX2_answer_47 : decode cX2_answer 47 = .ok (.getfield 18, 3) := by decide +kernel
theorem dX2_answer_50 : decode cX2_answer 50 = .ok (.ireturn, 1) := by decide +kernel
theorem dX2_answer_51 : decode cX2_answer 51 = .ok (.aload_n 0, 1) := by decide +kernel
theorem dX2_answer_52 : decode cX2_answer 52 = .ok (.getfield 21, 3) := by decide +kernel
theorem dX2_answer_55 : decode cX2_answer 55 = .ok (.ireturn, 1) := by decide +kernel
theorem dX2_answer_56 : decode cX2_answer 56 = .ok (.aload_n 0, 1) := by decide +kernel
theorem dX2_answer_57 : decode cX2_answer 57 = .ok (.getfield 24, 3) := by decide +kernel
theorem dX2_answer_60 : decode cX2_answer 60 = .ok (.ireturn, 1) := by decide +kernel
theorem dX2_answer_61 : decode cX2_answer 61 = .ok (.aload_n 0, 1) := by decide +kernel
theorem dX2_answer_62 : decode cX2_answer 62 = .ok (.getfield 30, 3) := by decide +kernel
theorem dX2_answer_65 : decode cX2_answer 65 = .ok (.ireturn, 1) := by decide +kernel
theorem dX2_canBeFollowedBy_0 : decode cX2_canBeFollowedBy 0 = .ok (.aload_n 0, 1) := by decide +kernel
theorem dX2_canBeFollowedBy_1 : decode cX2_canBeFollowedBy 1 = .ok (.invokevirtual 65, 3) := by decide +kernel
theorem dX2_canBeFollowedBy_4 : decode cX2_canBeFollowedBy 4 = .ok (.ifCond .eq 21, 3) := by decide +kernel
theorem dX2_canBeFollowedBy_7 : decode cX2_canBeFollowedBy 7 = .ok (.aload_n 1, 1) := by decide +kernel
theorem dX2_canBeFollowedBy_8 : decode cX2_canBeFollowedBy 8 = .ok (.invokevirtual 65, 3) := by decide +kernel
theorem dX2_canBeFollowedBy_11 : decode cX2_canBeFollowedBy 11 = .ok (.ifCond .eq 14, 3) := by decide +kernel
theorem dX2_canBeFollowedBy_14 : decode cX2_canBeFollowedBy 14 = .ok (.aload_n 1, 1) := by decide +kernel
theorem dX2_canBeFollowedBy_15 : decode cX2_canBeFollowedBy 15 = .ok (.getfield 62, 3) := by decide +kernel
theorem dX2_canBeFollowedBy_18 : decode cX2_canBeFollowedBy 18 = .ok (.aload_n 0, 1) := by decide +kernel
theorem dX2_canBeFollowedBy_19 : decode cX2_canBeFollowedBy 19 = .ok (.getfield 62, 3) := by decide +kernel
theorem dX2_canBeFollowedBy_22 : decode cX2_canBeFollowedBy 22 = .ok (.if_icmp .gt 5, 3) := by decide +kernel
theorem dX2_canBeFollowedBy_25 : decode cX2_canBeFollowedBy 25 = .ok (.iconst 0, 1) := by decide +kernel
theorem dX2_canBeFollowedBy_26 : decode cX2_canBeFollowedBy 26 = .ok (.ireturn, 1) := by decide +kernel
theorem dX2_canBeFollowedBy_27 : decode cX2_canBeFollowedBy 27 = .ok (.iload_n 2, 1) := by decide +kernel
theorem dX2_canBeFollowedBy_28 : decode cX2_canBeFollowedBy 28 = .ok (.i2l, 1) := by decide +kernel
theorem dX2_canBeFollowedBy_29 : decode cX2_canBeFollowedBy 29 = .ok (.aload_n 1, 1) := by decide +kernel
theorem dX2_canBeFollowedBy_30 : decode cX2_canBeFollowedBy 30 = .ok (.getfield 62, 3) := by decide +kernel
theorem dX2_canBeFollowedBy_33 : decode cX2_canBeFollowedBy 33 = .ok (.aload_n 0, 1) := by decide +kernel
theorem dX2_canBeFollowedBy_34 : decode cX2_canBeFollowedBy 34 = .ok (.getfield 62, 3) := by decide +kernel
theorem dX2_canBeFollowedBy_37 : decode cX2_canBeFollowedBy 37 = .ok (.isub, 1) := by decide +kernel
theorem dX2_canBeFollowedBy_38 : decode cX2_canBeFollowedBy 38 = .ok (.i2l, 1) := by decide +kernel
theorem dX2_canBeFollowedBy_39 : decode cX2_canBeFollowedBy 39 = .ok (.lmul, 1) := by decide +kernel
theorem dX2_canBeFollowedBy_40 : decode cX2_canBeFollowedBy 40 = .ok (.lstore_n 3, 1) := by decide +kernel
theorem dX2_canBeFollowedBy_41 : decode cX2_canBeFollowedBy 41 = .ok (.aload_n 1, 1) := by decide +kernel
theorem dX2_canBeFollowedBy_42 : decode cX2_canBeFollowedBy 42 = .ok (.getfield 18, 3) := by decide +kernel
theorem dX2_canBeFollowedBy_45 : decode cX2_canBeFollowedBy 45 = .ok (.aload_n 0, 1) := by decide +kernel
theorem dX2_canBeFollowedBy_46 : decode cX2_canBeFollowedBy 46 = .ok (.getfield 18, 3) := by decide +kernel
theorem dX2_canBeFollowedBy_49 : decode cX2_canBeFollowedBy 49 = .ok (.isub, 1) := by decide +kernel
theorem dX2_canBeFollowedBy_50 : decode cX2_canBeFollowedBy 50 = .ok (.aload_n 1, 1) := by decide +kernel
theorem dX2_canBeFollowedBy_51 : decode cX2_canBeFollowedBy 51 = .ok (.getfield 21, 3) := by decide +kernel
theorem dX2_canBeFollowedBy_54 : decode cX2_canBeFollowedBy 54 = .ok (.aload_n 0, 1) := by decide +kernel
theorem dX2_canBeFollowedBy_55 : decode cX2_canBeFollowedBy 55 = .ok (.getfield 21, 3) := by decide +kernel
theorem dX2_canBeFollowedBy_58 : decode cX2_canBeFollowedBy 58 = .ok (.isub, 1) := by decide +kernel
theorem dX2_canBeFollowedBy_59 : decode cX2_canBeFollowedBy 59 = .ok (.invokestatic 69, 3) := by decide +kernel
theorem dX2_canBeFollowedBy_62 : decode cX2_canBeFollowedBy 62 = .ok (.lload_n 3, 1) := by decide +kernel
theorem dX2_canBeFollowedBy_63 : decode cX2_canBeFollowedBy 63 = .ok (.lload_n 3, 1) := by decide +kernel
theorem dX2_canBeFollowedBy_64 : decode cX2_canBeFollowedBy 64 = .ok (.lmul, 1) := by decide +kernel
theorem dX2_canBeFollowedBy_65 : decode cX2_canBeFollowedBy 65 = .ok (.lcmp, 1) := by decide +kernel
theorem dX2_canBeFollowedBy_66 : decode cX2_canBeFollowedBy 66 = .ok (.ifCond .gt 7, 3) := by decide +kernel
theorem dX2_canBeFollowedBy_69 : decode cX2_canBeFollowedBy 69 = .ok (.iconst 1, 1) := by decide +kernel
theorem dX2_canBeFollowedBy_70 : decode cX2_canBeFollowedBy 70 = .ok (.goto 4, 3) := by decide +kernel
theorem dX2_canBeFollowedBy_73 : decode cX2_canBeFollowedBy 73 = .ok (.iconst 0, 1) := by decide +kernel
theorem dX2_canBeFollowedBy_74 : decode cX2_canBeFollowedBy 74 = .ok (.ireturn, 1) := by decide +kernel
theorem dX2_nearestMinute_0 : decode cX2_nearestMinute 0 = .ok (.aload_n 1, 1) := by decide +kernel
theorem dX2_nearestMinute_1 : decode cX2_nearestMinute 1 = .ok (.getfield 62, 3) := by decide +kernel
theorem dX2_nearestMinute_4 : decode cX2_nearestMinute 4 = .ok (.aload_n 0, 1) := by decide +kernel
theorem dX2_nearestMinute_5 : decode cX2_nearestMinute 5 = .ok (.getfield 62, 3) := by decide +kernel
theorem dX2_nearestMinute_8 : decode cX2_nearestMinute 8 = .ok (.isub, 1) := by decide +kernel
theorem dX2_nearestMinute_9 : decode cX2_nearestMinute 9 = .ok (.istore_n 3, 1) := by decide +kernel
theorem dX2_nearestMinute_10 : decode cX2_nearestMinute 10 = .ok (.iload_n 3, 1) := by decide +kernel
theorem dX2_nearestMinute_11 : decode cX2_nearestMinute 11 = .ok (.ifCond .gt 6, 3) := by decide +kernel
theorem dX2_nearestMinute_14 : decode cX2_nearestMinute 14 = .ok (.bipush (-4), 2) := by decide +kernel
theorem dX2_nearestMinute_16 : decode cX2_nearestMinute 16 = .ok (.ireturn, 1) := by decide +kernel
theorem dX2_nearestMinute_17 : decode cX2_nearestMinute 17 = .ok (.iconst 0, 1) := by decide +kernel
theorem dX2_nearestMinute_18 : decode cX2_nearestMinute 18 = .ok (.istore 4, 2) := by decide +kernel
theorem dX2_nearestMinute_20 : decode cX2_nearestMinute 20 = .ok (.aload_n 1, 1) := by decide +kernel
theorem dX2_nearestMinute_21 : decode cX2_nearestMinute 21 = .ok (.getfield 18, 3) := by decide +kernel
theorem dX2_nearestMinute_24 : decode cX2_nearestMinute 24 = .ok (.aload_n 2, 1) := by decide +kernel
theorem dX2_nearestMinute_25 : decode cX2_nearestMinute 25 = .ok (.getfield 73, 3) := by decide +kernel
theorem dX2_nearestMinute_28 : decode cX2_nearestMinute 28 = .ok (.isub, 1) := by decide +kernel
theorem dX2_nearestMinute_29 : decode cX2_nearestMinute 29 = .ok (.aload_n 1, 1) := by decide +kernel
theorem dX2_nearestMinute_30 : decode cX2_nearestMinute 30 = .ok (.getfield 21, 3) := by decide +kernel
theorem dX2_nearestMinute_33 : decode cX2_nearestMinute 33 = .ok (.aload_n 2, 1) := by decide +kernel
theorem dX2_nearestMinute_34 : decode cX2_nearestMinute 34 = .ok (.getfield 76, 3) := by decide +kernel
theorem dX2_nearestMinute_37 : decode cX2_nearestMinute 37 = .ok (.isub, 1) := by decide +kernel
theorem dX2_nearestMinute_38 : decode cX2_nearestMinute 38 = .ok (.invokestatic 69, 3) := by decide +kernel
theorem dX2_nearestMinute_41 : decode cX2_nearestMinute 41 = .ok (.lstore 5, 2) := by decide +kernel
theorem dX2_nearestMinute_43 : decode cX2_nearestMinute 43 = .ok (.iconst 1, 1) := by decide +kernel
theorem dX2_nearestMinute_44 : decode cX2_nearestMinute 44 = .ok (.istore 7, 2) := by decide +kernel
theorem dX2_nearestMinute_46 : decode cX2_nearestMinute 46 = .ok (.iload 7, 2) := by decide +kernel
theorem dX2_nearestMinute_48 : decode cX2_nearestMinute 48 = .ok (.bipush 120, 2) := by decide +kernel
theorem dX2_nearestMinute_50 : decode cX2_nearestMinute 50 = .ok (.if_icmp .gt 86, 3) := by decide +kernel
theorem dX2_nearestMinute_53 : decode cX2_nearestMinute 53 = .ok (.aload_n 1, 1) := by decide +kernel
theorem dX2_nearestMinute_54 : decode cX2_nearestMinute 54 = .ok (.getfield 18, 3) := by decide +kernel
theorem dX2_nearestMinute_57 : decode cX2_nearestMinute 57 = .ok (.iload 7, 2) := by decide +kernel
theorem dX2_nearestMinute_59 : decode cX2_nearestMinute 59 = .ok (.aload_n 1, 1) := by decide +kernel
theorem dX2_nearestMinute_60 : decode cX2_nearestMinute 60 = .ok (.getfield 18, 3) := by decide +kernel
theorem dX2_nearestMinute_63 : decode cX2_nearestMinute 63 = .ok (.aload_n 0, 1) := by decide +kernel
theorem dX2_nearestMinute_64 : decode cX2_nearestMinute 64 = .ok (.getfield 18, 3) := by decide +kernel
theorem dX2_nearestMinute_67 : decode cX2_nearestMinute 67 = .ok (.isub, 1) := by decide +kernel
theorem dX2_nearestMinute_68 : decode cX2_nearestMinute 68 = .ok (.imul, 1) := by decide +kernel
theorem dX2_nearestMinute_69 : decode cX2_nearestMinute 69 = .ok (.iload_n 3, 1) := by decide +kernel
theorem dX2_nearestMinute_70 : decode cX2_nearestMinute 70 = .ok (.idiv, 1) := by decide +kernel
theorem dX2_nearestMinute_71 : decode cX2_nearestMinute 71 = .ok (.iadd, 1) := by decide +kernel
theorem dX2_nearestMinute_72 : decode cX2_nearestMinute 72 = .ok (.istore 8, 2) := by decide +kernel
theorem dX2_nearestMinute_74 : decode cX2_nearestMinute 74 = .ok (.aload_n 1, 1) := by decide +kernel
theorem dX2_nearestMinute_75 : decode cX2_nearestMinute 75 = .ok (.getfield 21, 3) := by decide +kernel
theorem dX2_nearestMinute_78 : decode cX2_nearestMinute 78 = .ok (.iload 7, 2) := by decide +kernel
theorem dX2_nearestMinute_80 : decode cX2_nearestMinute 80 = .ok (.aload_n 1, 1) := by decide +kernel
theorem dX2_nearestMinute_81 : decode cX2_nearestMinute 81 = .ok (.getfield 21, 3) := by decide +kernel
theorem dX2_nearestMinute_84 : decode cX2_nearestMinute 84 = .ok (.aload_n 0, 1) := by decide +kernel
theorem dX2_nearestMinute_85 : decode cX2_nearestMinute 85 = .ok (.getfield 21, 3) := by decide +kernel
theorem dX2_nearestMinute_88 : decode cX2_nearestMinute 88 = .ok (.isub, 1) := by decide +kernel
theorem dX2_nearestMinute_89 : decode cX2_nearestMinute 89 = .ok (.imul, 1) := by decide +kernel
theorem dX2_nearestMinute_90 : decode cX2_nearestMinute 90 = .ok (.iload_n 3, 1) := by decide +kernel
theorem dX2_nearestMinute_91 : decode cX2_nearestMinute 91 = .ok (.idiv, 1) := by decide +kernel
theorem dX2_nearestMinute_92 : decode cX2_nearestMinute 92 = .ok (.iadd, 1) := by decide +kernel
theorem dX2_nearestMinute_93 : decode cX2_nearestMinute 93 = .ok (.istore 9, 2) := by decide +kernel
theorem dX2_nearestMinute_95 : decode cX2_nearestMinute 95 = .ok (.iload 8, 2) := by decide +kernel
theorem dX2_nearestMinute_97 : decode cX2_nearestMinute 97 = .ok (.aload_n 2, 1) := by decide +kernel
theorem dX2_nearestMinute_98 : decode cX2_nearestMinute 98 = .ok (.getfield 73, 3) := by decide +kernel
theorem dX2_nearestMinute_101 : decode cX2_nearestMinute 101 = .ok (.isub, 1) := by decide +kernel
theorem dX2_nearestMinute_102 : decode cX2_nearestMinute 102 = .ok (.iload 9, 2) := by decide +kernel
theorem dX2_nearestMinute_104 : decode cX2_nearestMinute 104 = .ok (.aload_n 2, 1) := by decide +kernel
theorem dX2_nearestMinute_105 : decode cX2_nearestMinute 105 = .ok (.getfield 76, 3) := by decide +kernel
theorem dX2_nearestMinute_108 : decode cX2_nearestMinute 108 = .ok (.isub, 1) := by decide +kernel
theorem dX2_nearestMinute_109 : decode cX2_nearestMinute 109 = .ok (.invokestatic 69, 3) := by decide +kernel
theorem dX2_nearestMinute_112 : decode cX2_nearestMinute 112 = .ok (.lstore 10, 2) := by decide +kernel
theorem dX2_nearestMinute_114 : decode cX2_nearestMinute 114 = .ok (.lload 10, 2) := by decide +kernel
theorem dX2_nearestMinute_116 : decode cX2_nearestMinute 116 = .ok (.lload 5, 2) := by decide +kernel
theorem dX2_nearestMinute_118 : decode cX2_nearestMinute 118 = .ok (.lcmp, 1) := by decide +kernel
theorem dX2_nearestMinute_119 : decode cX2_nearestMinute 119 = .ok (.ifCond .ge 11, 3) := by decide +kernel
theorem dX2_nearestMinute_122 : decode cX2_nearestMinute 122 = .ok (.lload 10, 2) := by decide +kernel
theorem dX2_nearestMinute_124 : decode cX2_nearestMinute 124 = .ok (.lstore 5, 2) := by decide +kernel
theorem dX2_nearestMinute_126 : decode cX2_nearestMinute 126 = .ok (.iload 7, 2) := by decide +kernel
theorem dX2_nearestMinute_128 : decode cX2_nearestMinute 128 = .ok (.istore 4, 2) := by decide +kernel
theorem dX2_nearestMinute_130 : decode cX2_nearestMinute 130 = .ok (.iinc 7 1, 3) := by decide +kernel
theorem dX2_nearestMinute_133 : decode cX2_nearestMinute 133 = .ok (.goto (-87), 3) := by decide +kernel
theorem dX2_nearestMinute_136 : decode cX2_nearestMinute 136 = .ok (.iload 4, 2) := by decide +kernel
theorem dX2_nearestMinute_138 : decode cX2_nearestMinute 138 = .ok (.ireturn, 1) := by decide +kernel
theorem dX2_squareOfFar_0 : decode cX2_squareOfFar 0 = .ok (.iload_n 0, 1) := by decide +kernel
theorem dX2_squareOfFar_1 : decode cX2_squareOfFar 1 = .ok (.i2l, 1) := by decide +kernel
theorem dX2_squareOfFar_2 : decode cX2_squareOfFar 2 = .ok (.iload_n 0, 1) := by decide +kernel
theorem dX2_squareOfFar_3 : decode cX2_squareOfFar 3 = .ok (.i2l, 1) := by decide +kernel
theorem dX2_squareOfFar_4 : decode cX2_squareOfFar 4 = .ok (.lmul, 1) := by decide +kernel
theorem dX2_squareOfFar_5 : decode cX2_squareOfFar 5 = .ok (.iload_n 1, 1) := by decide +kernel
theorem dX2_squareOfFar_6 : decode cX2_squareOfFar 6 = .ok (.i2l, 1) := by decide +kernel
theorem dX2_squareOfFar_7 : decode cX2_squareOfFar 7 = .ok (.iload_n 1, 1) := by decide +kernel
theorem dX2_squareOfFar_8 : decode cX2_squareOfFar 8 = .ok (.i2l, 1) := by decide +kernel
theorem dX2_squareOfFar_9 : decode cX2_squareOfFar 9 = .ok (.lmul, 1) := by decide +kernel
theorem dX2_squareOfFar_10 : decode cX2_squareOfFar 10 = .ok (.ladd, 1) := by decide +kernel
theorem dX2_squareOfFar_11 : decode cX2_squareOfFar 11 = .ok (.lreturn, 1) := by decide +kernel
theorem dX3_init_0 : decode cX3_init 0 = .ok (.aload_n 0, 1) := by decide +kernel
theorem dX3_init_1 : decode cX3_init 1 = .ok (.invokespecial 1, 3) := by decide +kernel
theorem dX3_init_4 : decode cX3_init 4 = .ok (.aload_n 0, 1) := by decide +kernel
theorem dX3_init_5 : decode cX3_init 5 = .ok (.aload_n 1, 1) := by decide +kernel
theorem dX3_init_6 : decode cX3_init 6 = .ok (.putfield 7, 3) := by decide +kernel
theorem dX3_init_9 : decode cX3_init 9 = .ok (.aload_n 0, 1) := by decide +kernel
theorem dX3_init_10 : decode cX3_init 10 = .ok (.iload_n 2, 1) := by decide +kernel
theorem dX3_init_11 : decode cX3_init 11 = .ok (.putfield 13, 3) := by decide +kernel
theorem dX3_init_14 : decode cX3_init 14 = .ok (.aload_n 0, 1) := by decide +kernel
theorem dX3_init_15 : decode cX3_init 15 = .ok (.iload_n 3, 1) := by decide +kernel
theorem dX3_init_16 : decode cX3_init 16 = .ok (.putfield 17, 3) := by decide +kernel
theorem dX3_init_19 : decode cX3_init 19 = .ok (.aload_n 0, 1) := by decide +kernel
theorem dX3_init_20 : decode cX3_init 20 = .ok (.iload 4, 2) := by decide +kernel
theorem dX3_init_22 : decode cX3_init 22 = .ok (.putfield 20, 3) := by decide +kernel
theorem dX3_init_25 : decode cX3_init 25 = .ok (.aload_n 0, 1) := by decide +kernel
theorem dX3_init_26 : decode cX3_init 26 = .ok (.iload 5, 2) := by decide +kernel
theorem dX3_init_28 : decode cX3_init 28 = .ok (.putfield 23, 3) := by decide +kernel
theorem dX3_init_31 : decode cX3_init 31 = .ok (.return_, 1) := by decide +kernel
theorem dX3_kind_0 : decode cX3_kind 0 = .ok (.iconst 0, 1) := by decide +kernel
theorem dX3_kind_1 : decode cX3_kind 1 = .ok (.ireturn, 1) := by decide +kernel
theorem dX3_earliest_0 : decode cX3_earliest 0 = .ok (.aload_n 0, 1) := by decide +kernel
theorem dX3_earliest_1 : decode cX3_earliest 1 = .ok (.getfield 17, 3) := by decide +kernel
theorem dX3_earliest_4 : decode cX3_earliest 4 = .ok (.aload_n 0, 1) := by decide +kernel
theorem dX3_earliest_5 : decode cX3_earliest 5 = .ok (.getfield 7, 3) := by decide +kernel
theorem dX3_earliest_8 : decode cX3_earliest 8 = .ok (.getfield 26, 3) := by decide +kernel
theorem dX3_earliest_11 : decode cX3_earliest 11 = .ok (.isub, 1) := by decide +kernel
theorem dX3_earliest_12 : decode cX3_earliest 12 = .ok (.ireturn, 1) := by decide +kernel
theorem dX3_latest_0 : decode cX3_latest 0 = .ok (.aload_n 0, 1) := by decide +kernel
theorem dX3_latest_1 : decode cX3_latest 1 = .ok (.getfield 17, 3) := by decide +kernel
theorem dX3_latest_4 : decode cX3_latest 4 = .ok (.aload_n 0, 1) := by decide +kernel
theorem dX3_latest_5 : decode cX3_latest 5 = .ok (.getfield 7, 3) := by decide +kernel
theorem dX3_latest_8 : decode cX3_latest 8 = .ok (.getfield 31, 3) := by decide +kernel
theorem dX3_latest_11 : decode cX3_latest 11 = .ok (.isub, 1) := by decide +kernel
theorem dX3_latest_12 : decode cX3_latest 12 = .ok (.ireturn, 1) := by decide +kernel
theorem dX4_init_0 : decode cX4_init 0 = .ok (.aload_n 0, 1) := by decide +kernel
theorem dX4_init_1 : decode cX4_init 1 = .ok (.aload_n 1, 1) := by decide +kernel
theorem dX4_init_2 : decode cX4_init 2 = .ok (.iload_n 2, 1) := by decide +kernel
theorem dX4_init_3 : decode cX4_init 3 = .ok (.iload_n 3, 1) := by decide +kernel
theorem dX4_init_4 : decode cX4_init 4 = .ok (.iload 4, 2) := by decide +kernel
theorem dX4_init_6 : decode cX4_init 6 = .ok (.iload 5, 2) := by decide +kernel
theorem dX4_init_8 : decode cX4_init 8 = .ok (.iload 6, 2) := by decide +kernel
theorem dX4_init_10 : decode cX4_init 10 = .ok (.invokespecial 1, 3) := by decide +kernel
theorem dX4_init_13 : decode cX4_init 13 = .ok (.aload_n 0, 1) := by decide +kernel
theorem dX4_init_14 : decode cX4_init 14 = .ok (.iload 7, 2) := by decide +kernel
theorem dX4_init_16 : decode cX4_init 16 = .ok (.putfield 7, 3) := by decide +kernel
theorem dX4_init_19 : decode cX4_init 19 = .ok (.return_, 1) := by decide +kernel
theorem dX4_kind_0 : decode cX4_kind 0 = .ok (.iconst 2, 1) := by decide +kernel
theorem dX4_kind_1 : decode cX4_kind 1 = .ok (.ireturn, 1) := by decide +kernel
theorem dX5_init_0 : decode cX5_init 0 = .ok (.aload_n 0, 1) := by decide +kernel
theorem dX5_init_1 : decode cX5_init 1 = .ok (.invokespecial 1, 3) := by decide +kernel
theorem dX5_init_4 : decode cX5_init 4 = .ok (.aload_n 0, 1) := by decide +kernel
theorem dX5_init_5 : decode cX5_init 5 = .ok (.iload_n 1, 1) := by decide +kernel
theorem dX5_init_6 : decode cX5_init 6 = .ok (.putfield 7, 3) := by decide +kernel
theorem dX5_init_9 : decode cX5_init 9 = .ok (.aload_n 0, 1) := by decide +kernel
theorem dX5_init_10 : decode cX5_init 10 = .ok (.iload_n 2, 1) := by decide +kernel
theorem dX5_init_11 : decode cX5_init 11 = .ok (.newarray .int, 2) := by decide +kernel
theorem dX5_init_13 : decode cX5_init 13 = .ok (.putfield 13, 3) := by decide +kernel
theorem dX5_init_16 : decode cX5_init 16 = .ok (.return_, 1) := by decide +kernel
theorem dX5_holds_0 : decode cX5_holds 0 = .ok (.iload_n 1, 1) := by decide +kernel
theorem dX5_holds_1 : decode cX5_holds 1 = .ok (.ifCond .lt 18, 3) := by decide +kernel
theorem dX5_holds_4 : decode cX5_holds 4 = .ok (.iload_n 1, 1) := by decide +kernel
theorem dX5_holds_5 : decode cX5_holds 5 = .ok (.aload_n 0, 1) := by decide +kernel
theorem dX5_holds_6 : decode cX5_holds 6 = .ok (.getfield 13, 3) := by decide +kernel
theorem dX5_holds_9 : decode cX5_holds 9 = .ok (.arraylength, 1) := by decide +kernel
theorem dX5_holds_10 : decode cX5_holds 10 = .ok (.iload_n 2, 1) := by decide +kernel
theorem dX5_holds_11 : decode cX5_holds 11 = .ok (.isub, 1) := by decide +kernel
theorem dX5_holds_12 : decode cX5_holds 12 = .ok (.if_icmp .gt 7, 3) := by decide +kernel
theorem dX5_holds_15 : decode cX5_holds 15 = .ok (.iconst 1, 1) := by decide +kernel
theorem dX5_holds_16 : decode cX5_holds 16 = .ok (.goto 4, 3) := by decide +kernel
theorem dX5_holds_19 : decode cX5_holds 19 = .ok (.iconst 0, 1) := by decide +kernel
theorem dX5_holds_20 : decode cX5_holds 20 = .ok (.ireturn, 1) := by decide +kernel
theorem dX6_init_0 : decode cX6_init 0 = .ok (.aload_n 0, 1) := by decide +kernel
theorem dX6_init_1 : decode cX6_init 1 = .ok (.invokespecial 3, 3) := by decide +kernel
theorem dX6_init_4 : decode cX6_init 4 = .ok (.aload_n 0, 1) := by decide +kernel
theorem dX6_init_5 : decode cX6_init 5 = .ok (.bipush 10, 2) := by decide +kernel
theorem dX6_init_7 : decode cX6_init 7 = .ok (.anewarray 9, 3) := by decide +kernel
theorem dX6_init_10 : decode cX6_init 10 = .ok (.putfield 11, 3) := by decide +kernel
theorem dX6_init_13 : decode cX6_init 13 = .ok (.aload_n 0, 1) := by decide +kernel
theorem dX6_init_14 : decode cX6_init 14 = .ok (.bipush 10, 2) := by decide +kernel
theorem dX6_init_16 : decode cX6_init 16 = .ok (.anewarray 17, 3) := by decide +kernel
theorem dX6_init_19 : decode cX6_init 19 = .ok (.putfield 19, 3) := by decide +kernel
theorem dX6_init_22 : decode cX6_init 22 = .ok (.aload_n 0, 1) := by decide +kernel
theorem dX6_init_23 : decode cX6_init 23 = .ok (.bipush 10, 2) := by decide +kernel
theorem dX6_init_25 : decode cX6_init 25 = .ok (.newarray .int, 2) := by decide +kernel
theorem dX6_init_27 : decode cX6_init 27 = .ok (.putfield 23, 3) := by decide +kernel
theorem dX6_init_30 : decode cX6_init 30 = .ok (.aload_n 0, 1) := by decide +kernel
theorem dX6_init_31 : decode cX6_init 31 = .ok (.bipush 10, 2) := by decide +kernel
theorem dX6_init_33 : decode cX6_init 33 = .ok (.newarray .int, 2) := by decide +kernel
theorem dX6_init_35 : decode cX6_init 35 = .ok (.putfield 27, 3) := by decide +kernel
theorem dX6_init_38 : decode cX6_init 38 = .ok (.aload_n 0, 1) := by decide +kernel
theorem dX6_init_39 : decode cX6_init 39 = .ok (.bipush 10, 2) := by decide +kernel
theorem dX6_init_41 : decode cX6_init 41 = .ok (.newarray .int, 2) := by decide +kernel
theorem dX6_init_43 : decode cX6_init 43 = .ok (.putfield 30, 3) := by decide +kernel
theorem dX6_init_46 : decode cX6_init 46 = .ok (.aload_n 0, 1) := by decide +kernel
theorem dX6_init_47 : decode cX6_init 47 = .ok (.bipush 10, 2) := by decide +kernel
theorem dX6_init_49 : decode cX6_init 49 = .ok (.newarray .int, 2) := by decide +kernel
theorem dX6_init_51 : decode cX6_init 51 = .ok (.putfield 33, 3) := by decide +kernel
theorem dX6_init_54 : decode cX6_init 54 = .ok (.aload_n 0, 1) := by decide +kernel
theorem dX6_init_55 : decode cX6_init 55 = .ok (.bipush 10, 2) := by decide +kernel
theorem dX6_init_57 : decode cX6_init 57 = .ok (.newarray .int, 2) := by decide +kernel
theorem dX6_init_59 : decode cX6_init 59 = .ok (.putfield 36, 3) := by decide +kernel
theorem dX6_init_62 : decode cX6_init 62 = .ok (.iconst 0, 1) := by decide +kernel
theorem dX6_init_63 : decode cX6_init 63 = .ok (.istore_n 1, 1) := by decide +kernel
theorem dX6_init_64 : decode cX6_init 64 = .ok (.iload_n 1, 1) := by decide +kernel
theorem dX6_init_65 : decode cX6_init 65 = .ok (.bipush 10, 2) := by decide +kernel
theorem dX6_init_67 : decode cX6_init 67 = .ok (.if_icmp .ge 22, 3) := by decide +kernel
theorem dX6_init_70 : decode cX6_init 70 = .ok (.aload_n 0, 1) := by decide +kernel
theorem dX6_init_71 : decode cX6_init 71 = .ok (.getfield 11, 3) := by decide +kernel
theorem dX6_init_74 : decode cX6_init 74 = .ok (.iload_n 1, 1) := by decide +kernel
theorem dX6_init_75 : decode cX6_init 75 = .ok (.new 9, 3) := by decide +kernel
theorem dX6_init_78 : decode cX6_init 78 = .ok (.dup, 1) := by decide +kernel
theorem dX6_init_79 : decode cX6_init 79 = .ok (.invokespecial 39, 3) := by decide +kernel
theorem dX6_init_82 : decode cX6_init 82 = .ok (.aastore, 1) := by decide +kernel
theorem dX6_init_83 : decode cX6_init 83 = .ok (.iinc 1 1, 3) := by decide +kernel
theorem dX6_init_86 : decode cX6_init 86 = .ok (.goto (-22), 3) := by decide +kernel
theorem dX6_init_89 : decode cX6_init 89 = .ok (.return_, 1) := by decide +kernel
theorem dX6_gather_0 : decode cX6_gather 0 = .ok (.aload_n 0, 1) := by decide +kernel
theorem dX6_gather_1 : decode cX6_gather 1 = .ok (.iconst 0, 1) := by decide +kernel
theorem dX6_gather_2 : decode cX6_gather 2 = .ok (.putfield 40, 3) := by decide +kernel
theorem dX6_gather_5 : decode cX6_gather 5 = .ok (.iconst 0, 1) := by decide +kernel
theorem dX6_gather_6 : decode cX6_gather 6 = .ok (.istore 4, 2) := by decide +kernel
theorem dX6_gather_8 : decode cX6_gather 8 = .ok (.iload 4, 2) := by decide +kernel
theorem dX6_gather_10 : decode cX6_gather 10 = .ok (.iload_n 2, 1) := by decide +kernel
theorem dX6_gather_11 : decode cX6_gather 11 = .ok (.if_icmp .ge 82, 3) := by decide +kernel
theorem dX6_gather_14 : decode cX6_gather 14 = .ok (.aload_n 1, 1) := by decide +kernel
theorem dX6_gather_15 : decode cX6_gather 15 = .ok (.iload 4, 2) := by decide +kernel
theorem dX6_gather_17 : decode cX6_gather 17 = .ok (.aaload, 1) := by decide +kernel
theorem dX6_gather_18 : decode cX6_gather 18 = .ok (.astore 6, 2) := by decide +kernel
theorem dX6_gather_20 : decode cX6_gather 20 = .ok (.aload 6, 2) := by decide +kernel
theorem dX6_gather_22 : decode cX6_gather 22 = .ok (.instanceof 17, 3) := by decide +kernel
theorem dX6_gather_25 : decode cX6_gather 25 = .ok (.ifCond .eq 62, 3) := by decide +kernel
theorem dX6_gather_28 : decode cX6_gather 28 = .ok (.aload 6, 2) := by decide +kernel
theorem dX6_gather_30 : decode cX6_gather 30 = .ok (.checkcast 17, 3) := by decide +kernel
theorem dX6_gather_33 : decode cX6_gather 33 = .ok (.astore 5, 2) := by decide +kernel
theorem dX6_gather_35 : decode cX6_gather 35 = .ok (.aload 5, 2) := by decide +kernel
theorem dX6_gather_37 : decode cX6_gather 37 = .ok (.getfield 44, 3) := by decide +kernel
theorem dX6_gather_40 : decode cX6_gather 40 = .ok (.iload_n 3, 1) := by decide +kernel
theorem dX6_gather_41 : decode cX6_gather 41 = .ok (.if_icmp .ne 46, 3) := by decide +kernel
theorem dX6_gather_44 : decode cX6_gather 44 = .ok (.aload_n 0, 1) := by decide +kernel
theorem dX6_gather_45 : decode cX6_gather 45 = .ok (.getfield 40, 3) := by decide +kernel
theorem dX6_gather_48 : decode cX6_gather 48 = .ok (.bipush 10, 2) := by decide +kernel
theorem dX6_gather_50 : decode cX6_gather 50 = .ok (.if_icmp .lt 5, 3) := by decide +kernel
theorem dX6_gather_53 : decode cX6_gather 53 = .ok (.iconst 0, 1) := by decide +kernel
theorem dX6_gather_54 : decode cX6_gather 54 = .ok (.ireturn, 1) := by decide +kernel
theorem dX6_gather_55 : decode cX6_gather 55 = .ok (.aload_n 0, 1) := by decide +kernel
theorem dX6_gather_56 : decode cX6_gather 56 = .ok (.getfield 19, 3) := by decide +kernel
theorem dX6_gather_59 : decode cX6_gather 59 = .ok (.aload_n 0, 1) := by decide +kernel
theorem dX6_gather_60 : decode cX6_gather 60 = .ok (.getfield 40, 3) := by decide +kernel
theorem dX6_gather_63 : decode cX6_gather 63 = .ok (.aload 5, 2) := by decide +kernel
theorem dX6_gather_65 : decode cX6_gather 65 = .ok (.aastore, 1) := by decide +kernel
theorem dX6_gather_66 : decode cX6_gather 66 = .ok (.aload_n 0, 1) := by decide +kernel
theorem dX6_gather_67 : decode cX6_gather 67 = .ok (.getfield 23, 3) := by decide +kernel
theorem dX6_gather_70 : decode cX6_gather 70 = .ok (.aload_n 0, 1) := by decide +kernel
theorem dX6_gather_71 : decode cX6_gather 71 = .ok (.getfield 40, 3) := by decide +kernel
theorem dX6_gather_74 : decode cX6_gather 74 = .ok (.iload 4, 2) := by decide +kernel
theorem dX6_gather_76 : decode cX6_gather 76 = .ok (.iastore, 1) := by decide +kernel
theorem dX6_gather_77 : decode cX6_gather 77 = .ok (.aload_n 0, 1) := by decide +kernel
theorem dX6_gather_78 : decode cX6_gather 78 = .ok (.dup, 1) := by decide +kernel
theorem dX6_gather_79 : decode cX6_gather 79 = .ok (.getfield 40, 3) := by decide +kernel
theorem dX6_gather_82 : decode cX6_gather 82 = .ok (.iconst 1, 1) := by decide +kernel
theorem dX6_gather_83 : decode cX6_gather 83 = .ok (.iadd, 1) := by decide +kernel
theorem dX6_gather_84 : decode cX6_gather 84 = .ok (.putfield 40, 3) := by decide +kernel
theorem dX6_gather_87 : decode cX6_gather 87 = .ok (.iinc 4 1, 3) := by decide +kernel
theorem dX6_gather_90 : decode cX6_gather 90 = .ok (.goto (-82), 3) := by decide +kernel
theorem dX6_gather_93 : decode cX6_gather 93 = .ok (.iconst 1, 1) := by decide +kernel
theorem dX6_gather_94 : decode cX6_gather 94 = .ok (.ireturn, 1) := by decide +kernel
theorem dX6_partCurtains_0 : decode cX6_partCurtains 0 = .ok (.aload_n 0, 1) := by decide +kernel
theorem dX6_partCurtains_1 : decode cX6_partCurtains 1 = .ok (.aload_n 1, 1) := by decide +kernel
theorem dX6_partCurtains_2 : decode cX6_partCurtains 2 = .ok (.iload_n 2, 1) := by decide +kernel
theorem dX6_partCurtains_3 : decode cX6_partCurtains 3 = .ok (.invokevirtual 47, 3) := by decide +kernel
theorem dX6_partCurtains_6 : decode cX6_partCurtains 6 = .ok (.aload_n 0, 1) := by decide +kernel
theorem dX6_partCurtains_7 : decode cX6_partCurtains 7 = .ok (.iconst 0, 1) := by decide +kernel
theorem dX6_partCurtains_8 : decode cX6_partCurtains 8 = .ok (.putfield 51, 3) := by decide +kernel
theorem dX6_partCurtains_11 : decode cX6_partCurtains 11 = .ok (.aload_n 0, 1) := by decide +kernel
theorem dX6_partCurtains_12 : decode cX6_partCurtains 12 = .ok (.getfield 40, 3) := by decide +kernel
theorem dX6_partCurtains_15 : decode cX6_partCurtains 15 = .ok (.ifCond .ne 7, 3) := by decide +kernel
theorem dX6_partCurtains_18 : decode cX6_partCurtains 18 = .ok (.iconst 1, 1) := by decide +kernel
theorem dX6_partCurtains_19 : decode cX6_partCurtains 19 = .ok (.goto 4, 3) := by decide +kernel
theorem dX6_partCurtains_22 : decode cX6_partCurtains 22 = .ok (.iconst 0, 1) := by decide +kernel
theorem dX6_partCurtains_23 : decode cX6_partCurtains 23 = .ok (.istore_n 3, 1) := by decide +kernel
theorem dX6_partCurtains_24 : decode cX6_partCurtains 24 = .ok (.iconst 1, 1) := by decide +kernel
theorem dX6_partCurtains_25 : decode cX6_partCurtains 25 = .ok (.istore 4, 2) := by decide +kernel
theorem dX6_partCurtains_27 : decode cX6_partCurtains 27 = .ok (.iload 4, 2) := by decide +kernel
theorem dX6_partCurtains_29 : decode cX6_partCurtains 29 = .ok (.aload_n 0, 1) := by decide +kernel
theorem dX6_partCurtains_30 : decode cX6_partCurtains 30 = .ok (.getfield 40, 3) := by decide +kernel
theorem dX6_partCurtains_33 : decode cX6_partCurtains 33 = .ok (.if_icmp .gt 28, 3) := by decide +kernel
theorem dX6_partCurtains_36 : decode cX6_partCurtains 36 = .ok (.iload_n 3, 1) := by decide +kernel
theorem dX6_partCurtains_37 : decode cX6_partCurtains 37 = .ok (.ifCond .ne 24, 3) := by decide +kernel
theorem dX6_partCurtains_40 : decode cX6_partCurtains 40 = .ok (.aload_n 0, 1) := by decide +kernel
theorem dX6_partCurtains_41 : decode cX6_partCurtains 41 = .ok (.iconst 0, 1) := by decide +kernel
theorem dX6_partCurtains_42 : decode cX6_partCurtains 42 = .ok (.iconst 0, 1) := by decide +kernel
theorem dX6_partCurtains_43 : decode cX6_partCurtains 43 = .ok (.iload 4, 2) := by decide +kernel
theorem dX6_partCurtains_45 : decode cX6_partCurtains 45 = .ok (.invokevirtual 54, 3) := by decide +kernel
theorem dX6_partCurtains_48 : decode cX6_partCurtains 48 = .ok (.istore_n 3, 1) := by decide +kernel
theorem dX6_partCurtains_49 : decode cX6_partCurtains 49 = .ok (.aload_n 0, 1) := by decide +kernel
theorem dX6_partCurtains_50 : decode cX6_partCurtains 50 = .ok (.iload 4, 2) := by decide +kernel
theorem dX6_partCurtains_52 : decode cX6_partCurtains 52 = .ok (.putfield 51, 3) := by decide +kernel
theorem dX6_partCurtains_55 : decode cX6_partCurtains 55 = .ok (.iinc 4 1, 3) := by decide +kernel
theorem dX6_partCurtains_58 : decode cX6_partCurtains 58 = .ok (.goto (-31), 3) := by decide +kernel
theorem dX6_partCurtains_61 : decode cX6_partCurtains 61 = .ok (.iconst 0, 1) := by decide +kernel
theorem dX6_partCurtains_62 : decode cX6_partCurtains 62 = .ok (.istore 4, 2) := by decide +kernel
theorem dX6_partCurtains_64 : decode cX6_partCurtains 64 = .ok (.iload 4, 2) := by decide +kernel
theorem dX6_partCurtains_66 : decode cX6_partCurtains 66 = .ok (.aload_n 0, 1) := by decide +kernel
theorem dX6_partCurtains_67 : decode cX6_partCurtains 67 = .ok (.getfield 51, 3) := by decide +kernel
theorem dX6_partCurtains_70 : decode cX6_partCurtains 70 = .ok (.if_icmp .ge 17, 3) := by decide +kernel
theorem dX6_partCurtains_73 : decode cX6_partCurtains 73 = .ok (.aload_n 0, 1) := by decide +kernel
theorem dX6_partCurtains_74 : decode cX6_partCurtains 74 = .ok (.iload 4, 2) := by decide +kernel
theorem dX6_partCurtains_76 : decode cX6_partCurtains 76 = .ok (.aload_n 1, 1) := by decide +kernel
theorem dX6_partCurtains_77 : decode cX6_partCurtains 77 = .ok (.iload_n 2, 1) := by decide +kernel
theorem dX6_partCurtains_78 : decode cX6_partCurtains 78 = .ok (.invokevirtual 58, 3) := by decide +kernel
theorem dX6_partCurtains_81 : decode cX6_partCurtains 81 = .ok (.iinc 4 1, 3) := by decide +kernel
theorem dX6_partCurtains_84 : decode cX6_partCurtains 84 = .ok (.goto (-20), 3) := by decide +kernel
theorem dX6_partCurtains_87 : decode cX6_partCurtains 87 = .ok (.aload_n 0, 1) := by decide +kernel
theorem dX6_partCurtains_88 : decode cX6_partCurtains 88 = .ok (.getfield 51, 3) := by decide +kernel
theorem dX6_partCurtains_91 : decode cX6_partCurtains 91 = .ok (.ireturn, 1) := by decide +kernel
theorem dX6_setOfSighting_0 : decode cX6_setOfSighting 0 = .ok (.iconst 0, 1) := by decide +kernel
theorem dX6_setOfSighting_1 : decode cX6_setOfSighting 1 = .ok (.istore_n 2, 1) := by decide +kernel
theorem dX6_setOfSighting_2 : decode cX6_setOfSighting 2 = .ok (.iload_n 2, 1) := by decide +kernel
theorem dX6_setOfSighting_3 : decode cX6_setOfSighting 3 = .ok (.aload_n 0, 1) := by decide +kernel
theorem dX6_setOfSighting_4 : decode cX6_setOfSighting 4 = .ok (.getfield 40, 3) := by decide +kernel
theorem dX6_setOfSighting_7 : decode cX6_setOfSighting 7 = .ok (.if_icmp .ge 26, 3) := by decide +kernel
theorem dX6_setOfSighting_10 : decode cX6_setOfSighting 10 = .ok (.aload_n 0, 1) := by decide +kernel
theorem dX6_setOfSighting_11 : decode cX6_setOfSighting 11 = .ok (.getfield 23, 3) := by decide +kernel
theorem dX6_setOfSighting_14 : decode cX6_setOfSighting 14 = .ok (.iload_n 2, 1) := by decide +kernel
theorem dX6_setOfSighting_15 : decode cX6_setOfSighting 15 = .ok (.iaload, 1) := by decide +kernel
theorem dX6_setOfSighting_16 : decode cX6_setOfSighting 16 = .ok (.iload_n 1, 1) := by decide +kernel
theorem dX6_setOfSighting_17 : decode cX6_setOfSighting 17 = .ok (.if_icmp .ne 10, 3) := by decide +kernel
theorem dX6_setOfSighting_20 : decode cX6_setOfSighting 20 = .ok (.aload_n 0, 1) := by decide +kernel
theorem dX6_setOfSighting_21 : decode cX6_setOfSighting 21 = .ok (.getfield 36, 3) := by decide +kernel
theorem dX6_setOfSighting_24 : decode cX6_setOfSighting 24 = .ok (.iload_n 2, 1) := by decide +kernel
theorem dX6_setOfSighting_25 : decode cX6_setOfSighting 25 = .ok (.iaload, 1) := by decide +kernel
theorem dX6_setOfSighting_26 : decode cX6_setOfSighting 26 = .ok (.ireturn, 1) := by decide +kernel
theorem dX6_setOfSighting_27 : decode cX6_setOfSighting 27 = .ok (.iinc 2 1, 3) := by decide +kernel
theorem dX6_setOfSighting_30 : decode cX6_setOfSighting 30 = .ok (.goto (-28), 3) := by decide +kernel
theorem dX6_setOfSighting_33 : decode cX6_setOfSighting 33 = .ok (.bipush (-4), 2) := by decide +kernel
theorem dX6_setOfSighting_35 : decode cX6_setOfSighting 35 = .ok (.ireturn, 1) := by decide +kernel
theorem dX6_joinWays_0 : decode cX6_joinWays 0 = .ok (.aload_n 0, 1) := by decide +kernel
theorem dX6_joinWays_1 : decode cX6_joinWays 1 = .ok (.iload_n 1, 1) := by decide +kernel
theorem dX6_joinWays_2 : decode cX6_joinWays 2 = .ok (.invokevirtual 62, 3) := by decide +kernel
theorem dX6_joinWays_5 : decode cX6_joinWays 5 = .ok (.istore_n 2, 1) := by decide +kernel
theorem dX6_joinWays_6 : decode cX6_joinWays 6 = .ok (.aload_n 0, 1) := by decide +kernel
theorem dX6_joinWays_7 : decode cX6_joinWays 7 = .ok (.iconst 0, 1) := by decide +kernel
theorem dX6_joinWays_8 : decode cX6_joinWays 8 = .ok (.iconst 0, 1) := by decide +kernel
theorem dX6_joinWays_9 : decode cX6_joinWays 9 = .ok (.invokevirtual 66, 3) := by decide +kernel
theorem dX6_joinWays_12 : decode cX6_joinWays 12 = .ok (.istore_n 3, 1) := by decide +kernel
theorem dX6_joinWays_13 : decode cX6_joinWays 13 = .ok (.iload_n 3, 1) := by decide +kernel
theorem dX6_joinWays_14 : decode cX6_joinWays 14 = .ok (.istore 4, 2) := by decide +kernel
theorem dX6_joinWays_16 : decode cX6_joinWays 16 = .ok (.iconst 0, 1) := by decide +kernel
theorem dX6_joinWays_17 : decode cX6_joinWays 17 = .ok (.istore 5, 2) := by decide +kernel
theorem dX6_joinWays_19 : decode cX6_joinWays 19 = .ok (.iconst 0, 1) := by decide +kernel
theorem dX6_joinWays_20 : decode cX6_joinWays 20 = .ok (.istore 6, 2) := by decide +kernel
theorem dX6_joinWays_22 : decode cX6_joinWays 22 = .ok (.iload 6, 2) := by decide +kernel
theorem dX6_joinWays_24 : decode cX6_joinWays 24 = .ok (.aload_n 0, 1) := by decide +kernel
theorem dX6_joinWays_25 : decode cX6_joinWays 25 = .ok (.getfield 51, 3) := by decide +kernel
theorem dX6_joinWays_28 : decode cX6_joinWays 28 = .ok (.if_icmp .ge 52, 3) := by decide +kernel
theorem dX6_joinWays_31 : decode cX6_joinWays 31 = .ok (.aload_n 0, 1) := by decide +kernel
theorem dX6_joinWays_32 : decode cX6_joinWays 32 = .ok (.iload 6, 2) := by decide +kernel
theorem dX6_joinWays_34 : decode cX6_joinWays 34 = .ok (.iload 5, 2) := by decide +kernel
theorem dX6_joinWays_36 : decode cX6_joinWays 36 = .ok (.iload 4, 2) := by decide +kernel
theorem dX6_joinWays_38 : decode cX6_joinWays 38 = .ok (.invokevirtual 70, 3) := by decide +kernel
theorem dX6_joinWays_41 : decode cX6_joinWays 41 = .ok (.istore 7, 2) := by decide +kernel
theorem dX6_joinWays_43 : decode cX6_joinWays 43 = .ok (.aload_n 0, 1) := by decide +kernel
theorem dX6_joinWays_44 : decode cX6_joinWays 44 = .ok (.getfield 11, 3) := by decide +kernel
theorem dX6_joinWays_47 : decode cX6_joinWays 47 = .ok (.iload 6, 2) := by decide +kernel
theorem dX6_joinWays_49 : decode cX6_joinWays 49 = .ok (.aaload, 1) := by decide +kernel
theorem dX6_joinWays_50 : decode cX6_joinWays 50 = .ok (.iload 7, 2) := by decide +kernel
theorem dX6_joinWays_52 : decode cX6_joinWays 52 = .ok (.putfield 74, 3) := by decide +kernel
theorem dX6_joinWays_55 : decode cX6_joinWays 55 = .ok (.iload 7, 2) := by decide +kernel
theorem dX6_joinWays_57 : decode cX6_joinWays 57 = .ok (.bipush (-4), 2) := by decide +kernel
theorem dX6_joinWays_59 : decode cX6_joinWays 59 = .ok (.if_icmp .eq 15, 3) := by decide +kernel
theorem dX6_joinWays_62 : decode cX6_joinWays 62 = .ok (.iload 5, 2) := by decide +kernel
theorem dX6_joinWays_64 : decode cX6_joinWays 64 = .ok (.iconst 1, 1) := by decide +kernel
theorem dX6_joinWays_65 : decode cX6_joinWays 65 = .ok (.iload 7, 2) := by decide +kernel
theorem dX6_joinWays_67 : decode cX6_joinWays 67 = .ok (.ishl, 1) := by decide +kernel
theorem dX6_joinWays_68 : decode cX6_joinWays 68 = .ok (.ior, 1) := by decide +kernel
theorem dX6_joinWays_69 : decode cX6_joinWays 69 = .ok (.istore 5, 2) := by decide +kernel
theorem dX6_joinWays_71 : decode cX6_joinWays 71 = .ok (.iinc 4 (-1), 3) := by decide +kernel
theorem dX6_joinWays_74 : decode cX6_joinWays 74 = .ok (.iinc 6 1, 3) := by decide +kernel
theorem dX6_joinWays_77 : decode cX6_joinWays 77 = .ok (.goto (-55), 3) := by decide +kernel
theorem dX6_joinWays_80 : decode cX6_joinWays 80 = .ok (.iload_n 2, 1) := by decide +kernel
theorem dX6_joinWays_81 : decode cX6_joinWays 81 = .ok (.iload_n 3, 1) := by decide +kernel
theorem dX6_joinWays_82 : decode cX6_joinWays 82 = .ok (.isub, 1) := by decide +kernel
theorem dX6_joinWays_83 : decode cX6_joinWays 83 = .ok (.ireturn, 1) := by decide +kernel
theorem dX6_findMeetings_0 : decode cX6_findMeetings 0 = .ok (.iconst 0, 1) := by decide +kernel
theorem dX6_findMeetings_1 : decode cX6_findMeetings 1 = .ok (.istore_n 3, 1) := by decide +kernel
theorem dX6_findMeetings_2 : decode cX6_findMeetings 2 = .ok (.iload_n 3, 1) := by decide +kernel
theorem dX6_findMeetings_3 : decode cX6_findMeetings 3 = .ok (.aload_n 0, 1) := by decide +kernel
theorem dX6_findMeetings_4 : decode cX6_findMeetings 4 = .ok (.getfield 40, 3) := by decide +kernel
theorem dX6_findMeetings_7 : decode cX6_findMeetings 7 = .ok (.if_icmp .ge 16, 3) := by decide +kernel
theorem dX6_findMeetings_10 : decode cX6_findMeetings 10 = .ok (.aload_n 0, 1) := by decide +kernel
theorem dX6_findMeetings_11 : decode cX6_findMeetings 11 = .ok (.getfield 27, 3) := by decide +kernel
theorem dX6_findMeetings_14 : decode cX6_findMeetings 14 = .ok (.iload_n 3, 1) := by decide +kernel
theorem dX6_findMeetings_15 : decode cX6_findMeetings 15 = .ok (.iconst 0, 1) := by decide +kernel
theorem dX6_findMeetings_16 : decode cX6_findMeetings 16 = .ok (.iastore, 1) := by decide +kernel
theorem dX6_findMeetings_17 : decode cX6_findMeetings 17 = .ok (.iinc 3 1, 3) := by decide +kernel
theorem dX6_findMeetings_20 : decode cX6_findMeetings 20 = .ok (.goto (-18), 3) := by decide +kernel
theorem dX6_findMeetings_23 : decode cX6_findMeetings 23 = .ok (.iconst 0, 1) := by decide +kernel
theorem dX6_findMeetings_24 : decode cX6_findMeetings 24 = .ok (.istore_n 3, 1) := by decide +kernel
theorem dX6_findMeetings_25 : decode cX6_findMeetings 25 = .ok (.iload_n 3, 1) := by decide +kernel
theorem dX6_findMeetings_26 : decode cX6_findMeetings 26 = .ok (.aload_n 0, 1) := by decide +kernel
theorem dX6_findMeetings_27 : decode cX6_findMeetings 27 = .ok (.getfield 40, 3) := by decide +kernel
theorem dX6_findMeetings_30 : decode cX6_findMeetings 30 = .ok (.if_icmp .ge 82, 3) := by decide +kernel
theorem dX6_findMeetings_33 : decode cX6_findMeetings 33 = .ok (.iload_n 3, 1) := by decide +kernel
theorem dX6_findMeetings_34 : decode cX6_findMeetings 34 = .ok (.iconst 1, 1) := by decide +kernel
theorem dX6_findMeetings_35 : decode cX6_findMeetings 35 = .ok (.iadd, 1) := by decide +kernel
theorem dX6_findMeetings_36 : decode cX6_findMeetings 36 = .ok (.istore 4, 2) := by decide +kernel
theorem dX6_findMeetings_38 : decode cX6_findMeetings 38 = .ok (.iload 4, 2) := by decide +kernel
theorem dX6_findMeetings_40 : decode cX6_findMeetings 40 = .ok (.aload_n 0, 1) := by decide +kernel
theorem dX6_findMeetings_41 : decode cX6_findMeetings 41 = .ok (.getfield 40, 3) := by decide +kernel
theorem dX6_findMeetings_44 : decode cX6_findMeetings 44 = .ok (.if_icmp .ge 62, 3) := by decide +kernel
theorem dX6_findMeetings_47 : decode cX6_findMeetings 47 = .ok (.aload_n 0, 1) := by decide +kernel
theorem dX6_findMeetings_48 : decode cX6_findMeetings 48 = .ok (.getfield 19, 3) := by decide +kernel
theorem dX6_findMeetings_51 : decode cX6_findMeetings 51 = .ok (.iload_n 3, 1) := by decide +kernel
theorem dX6_findMeetings_52 : decode cX6_findMeetings 52 = .ok (.aaload, 1) := by decide +kernel
theorem dX6_findMeetings_53 : decode cX6_findMeetings 53 = .ok (.aload_n 0, 1) := by decide +kernel
theorem dX6_findMeetings_54 : decode cX6_findMeetings 54 = .ok (.getfield 19, 3) := by decide +kernel
theorem dX6_findMeetings_57 : decode cX6_findMeetings 57 = .ok (.iload 4, 2) := by decide +kernel
theorem dX6_findMeetings_59 : decode cX6_findMeetings 59 = .ok (.aaload, 1) := by decide +kernel
theorem dX6_findMeetings_60 : decode cX6_findMeetings 60 = .ok (.invokevirtual 77, 3) := by decide +kernel
theorem dX6_findMeetings_63 : decode cX6_findMeetings 63 = .ok (.ifCond .eq 37, 3) := by decide +kernel
theorem dX6_findMeetings_66 : decode cX6_findMeetings 66 = .ok (.aload_n 1, 1) := by decide +kernel
theorem dX6_findMeetings_67 : decode cX6_findMeetings 67 = .ok (.aload_n 0, 1) := by decide +kernel
theorem dX6_findMeetings_68 : decode cX6_findMeetings 68 = .ok (.getfield 19, 3) := by decide +kernel
theorem dX6_findMeetings_71 : decode cX6_findMeetings 71 = .ok (.iload_n 3, 1) := by decide +kernel
theorem dX6_findMeetings_72 : decode cX6_findMeetings 72 = .ok (.aaload, 1) := by decide +kernel
theorem dX6_findMeetings_73 : decode cX6_findMeetings 73 = .ok (.aload_n 0, 1) := by decide +kernel
theorem dX6_findMeetings_74 : decode cX6_findMeetings 74 = .ok (.getfield 19, 3) := by decide +kernel
theorem dX6_findMeetings_77 : decode cX6_findMeetings 77 = .ok (.iload 4, 2) := by decide +kernel
theorem dX6_findMeetings_79 : decode cX6_findMeetings 79 = .ok (.aaload, 1) := by decide +kernel
theorem dX6_findMeetings_80 : decode cX6_findMeetings 80 = .ok (.iload_n 2, 1) := by decide +kernel
theorem dX6_findMeetings_81 : decode cX6_findMeetings 81 = .ok (.invokevirtual 81, 3) := by decide +kernel
theorem dX6_findMeetings_84 : decode cX6_findMeetings 84 = .ok (.ifCond .eq 16, 3) := by decide +kernel
theorem dX6_findMeetings_87 : decode cX6_findMeetings 87 = .ok (.aload_n 0, 1) := by decide +kernel
theorem dX6_findMeetings_88 : decode cX6_findMeetings 88 = .ok (.getfield 27, 3) := by decide +kernel
theorem dX6_findMeetings_91 : decode cX6_findMeetings 91 = .ok (.iload 4, 2) := by decide +kernel
theorem dX6_findMeetings_93 : decode cX6_findMeetings 93 = .ok (.dup2, 1) := by decide +kernel
theorem dX6_findMeetings_94 : decode cX6_findMeetings 94 = .ok (.iaload, 1) := by decide +kernel
theorem dX6_findMeetings_95 : decode cX6_findMeetings 95 = .ok (.iconst 1, 1) := by decide +kernel
theorem dX6_findMeetings_96 : decode cX6_findMeetings 96 = .ok (.iload_n 3, 1) := by decide +kernel
theorem dX6_findMeetings_97 : decode cX6_findMeetings 97 = .ok (.ishl, 1) := by decide +kernel
theorem dX6_findMeetings_98 : decode cX6_findMeetings 98 = .ok (.ior, 1) := by decide +kernel
theorem dX6_findMeetings_99 : decode cX6_findMeetings 99 = .ok (.iastore, 1) := by decide +kernel
theorem dX6_findMeetings_100 : decode cX6_findMeetings 100 = .ok (.iinc 4 1, 3) := by decide +kernel
theorem dX6_findMeetings_103 : decode cX6_findMeetings 103 = .ok (.goto (-65), 3) := by decide +kernel
theorem dX6_findMeetings_106 : decode cX6_findMeetings 106 = .ok (.iinc 3 1, 3) := by decide +kernel
theorem dX6_findMeetings_109 : decode cX6_findMeetings 109 = .ok (.goto (-84), 3) := by decide +kernel
theorem dX6_findMeetings_112 : decode cX6_findMeetings 112 = .ok (.return_, 1) := by decide +kernel
theorem dX6_partFrom_0 : decode cX6_partFrom 0 = .ok (.iload_n 1, 1) := by decide +kernel
theorem dX6_partFrom_1 : decode cX6_partFrom 1 = .ok (.aload_n 0, 1) := by decide +kernel
theorem dX6_partFrom_2 : decode cX6_partFrom 2 = .ok (.getfield 40, 3) := by decide +kernel
theorem dX6_partFrom_5 : decode cX6_partFrom 5 = .ok (.if_icmp .lt 5, 3) := by decide +kernel
theorem dX6_partFrom_8 : decode cX6_partFrom 8 = .ok (.iconst 1, 1) := by decide +kernel
theorem dX6_partFrom_9 : decode cX6_partFrom 9 = .ok (.ireturn, 1) := by decide +kernel
theorem dX6_partFrom_10 : decode cX6_partFrom 10 = .ok (.iconst 0, 1) := by decide +kernel
theorem dX6_partFrom_11 : decode cX6_partFrom 11 = .ok (.istore 4, 2) := by decide +kernel
theorem dX6_partFrom_13 : decode cX6_partFrom 13 = .ok (.iload 4, 2) := by decide +kernel
theorem dX6_partFrom_15 : decode cX6_partFrom 15 = .ok (.iload_n 2, 1) := by decide +kernel
theorem dX6_partFrom_16 : decode cX6_partFrom 16 = .ok (.if_icmp .gt 99, 3) := by decide +kernel
theorem dX6_partFrom_19 : decode cX6_partFrom 19 = .ok (.iload 4, 2) := by decide +kernel
theorem dX6_partFrom_21 : decode cX6_partFrom 21 = .ok (.iload_n 3, 1) := by decide +kernel
theorem dX6_partFrom_22 : decode cX6_partFrom 22 = .ok (.if_icmp .ge 93, 3) := by decide +kernel
theorem dX6_partFrom_25 : decode cX6_partFrom 25 = .ok (.iload 4, 2) := by decide +kernel
theorem dX6_partFrom_27 : decode cX6_partFrom 27 = .ok (.iload_n 2, 1) := by decide +kernel
theorem dX6_partFrom_28 : decode cX6_partFrom 28 = .ok (.if_icmp .ge 13, 3) := by decide +kernel
theorem dX6_partFrom_31 : decode cX6_partFrom 31 = .ok (.aload_n 0, 1) := by decide +kernel
theorem dX6_partFrom_32 : decode cX6_partFrom 32 = .ok (.getfield 30, 3) := by decide +kernel
theorem dX6_partFrom_35 : decode cX6_partFrom 35 = .ok (.iload 4, 2) := by decide +kernel
theorem dX6_partFrom_37 : decode cX6_partFrom 37 = .ok (.iaload, 1) := by decide +kernel
theorem dX6_partFrom_38 : decode cX6_partFrom 38 = .ok (.goto 4, 3) := by decide +kernel
theorem dX6_partFrom_41 : decode cX6_partFrom 41 = .ok (.iconst 0, 1) := by decide +kernel
theorem dX6_partFrom_42 : decode cX6_partFrom 42 = .ok (.istore 5, 2) := by decide +kernel
theorem dX6_partFrom_44 : decode cX6_partFrom 44 = .ok (.iload 5, 2) := by decide +kernel
theorem dX6_partFrom_46 : decode cX6_partFrom 46 = .ok (.aload_n 0, 1) := by decide +kernel
theorem dX6_partFrom_47 : decode cX6_partFrom 47 = .ok (.getfield 27, 3) := by decide +kernel
theorem dX6_partFrom_50 : decode cX6_partFrom 50 = .ok (.iload_n 1, 1) := by decide +kernel
theorem dX6_partFrom_51 : decode cX6_partFrom 51 = .ok (.iaload, 1) := by decide +kernel
theorem dX6_partFrom_52 : decode cX6_partFrom 52 = .ok (.iconst (-1), 1) := by decide +kernel
theorem dX6_partFrom_53 : decode cX6_partFrom 53 = .ok (.ixor, 1) := by decide +kernel
theorem dX6_partFrom_54 : decode cX6_partFrom 54 = .ok (.iand, 1) := by decide +kernel
theorem dX6_partFrom_55 : decode cX6_partFrom 55 = .ok (.ifCond .ne 54, 3) := by decide +kernel
theorem dX6_partFrom_58 : decode cX6_partFrom 58 = .ok (.aload_n 0, 1) := by decide +kernel
theorem dX6_partFrom_59 : decode cX6_partFrom 59 = .ok (.getfield 36, 3) := by decide +kernel
theorem dX6_partFrom_62 : decode cX6_partFrom 62 = .ok (.iload_n 1, 1) := by decide +kernel
theorem dX6_partFrom_63 : decode cX6_partFrom 63 = .ok (.iload 4, 2) := by decide +kernel
theorem dX6_partFrom_65 : decode cX6_partFrom 65 = .ok (.iastore, 1) := by decide +kernel
theorem dX6_partFrom_66 : decode cX6_partFrom 66 = .ok (.aload_n 0, 1) := by decide +kernel
theorem dX6_partFrom_67 : decode cX6_partFrom 67 = .ok (.getfield 30, 3) := by decide +kernel
theorem dX6_partFrom_70 : decode cX6_partFrom 70 = .ok (.iload 4, 2) := by decide +kernel
theorem dX6_partFrom_72 : decode cX6_partFrom 72 = .ok (.iload 5, 2) := by decide +kernel
theorem dX6_partFrom_74 : decode cX6_partFrom 74 = .ok (.iconst 1, 1) := by decide +kernel
theorem dX6_partFrom_75 : decode cX6_partFrom 75 = .ok (.iload_n 1, 1) := by decide +kernel
theorem dX6_partFrom_76 : decode cX6_partFrom 76 = .ok (.ishl, 1) := by decide +kernel
theorem dX6_partFrom_77 : decode cX6_partFrom 77 = .ok (.ior, 1) := by decide +kernel
theorem dX6_partFrom_78 : decode cX6_partFrom 78 = .ok (.iastore, 1) := by decide +kernel
theorem dX6_partFrom_79 : decode cX6_partFrom 79 = .ok (.aload_n 0, 1) := by decide +kernel
theorem dX6_partFrom_80 : decode cX6_partFrom 80 = .ok (.iload_n 1, 1) := by decide +kernel
theorem dX6_partFrom_81 : decode cX6_partFrom 81 = .ok (.iconst 1, 1) := by decide +kernel
theorem dX6_partFrom_82 : decode cX6_partFrom 82 = .ok (.iadd, 1) := by decide +kernel
theorem dX6_partFrom_83 : decode cX6_partFrom 83 = .ok (.iload_n 2, 1) := by decide +kernel
theorem dX6_partFrom_84 : decode cX6_partFrom 84 = .ok (.iload 4, 2) := by decide +kernel
theorem dX6_partFrom_86 : decode cX6_partFrom 86 = .ok (.iconst 1, 1) := by decide +kernel
theorem dX6_partFrom_87 : decode cX6_partFrom 87 = .ok (.iadd, 1) := by decide +kernel
theorem dX6_partFrom_88 : decode cX6_partFrom 88 = .ok (.invokestatic 87, 3) := by decide +kernel
theorem dX6_partFrom_91 : decode cX6_partFrom 91 = .ok (.iload_n 3, 1) := by decide +kernel
theorem dX6_partFrom_92 : decode cX6_partFrom 92 = .ok (.invokevirtual 54, 3) := by decide +kernel
theorem dX6_partFrom_95 : decode cX6_partFrom 95 = .ok (.ifCond .eq 5, 3) := by decide +kernel
theorem dX6_partFrom_98 : decode cX6_partFrom 98 = .ok (.iconst 1, 1) := by decide +kernel
theorem dX6_partFrom_99 : decode cX6_partFrom 99 = .ok (.ireturn, 1) := by decide +kernel
theorem dX6_partFrom_100 : decode cX6_partFrom 100 = .ok (.aload_n 0, 1) := by decide +kernel
theorem dX6_partFrom_101 : decode cX6_partFrom 101 = .ok (.getfield 30, 3) := by decide +kernel
theorem dX6_partFrom_104 : decode cX6_partFrom 104 = .ok (.iload 4, 2) := by decide +kernel
theorem dX6_partFrom_106 : decode cX6_partFrom 106 = .ok (.iload 5, 2) := by decide +kernel
theorem dX6_partFrom_108 : decode cX6_partFrom 108 = .ok (.iastore, 1) := by decide +kernel
theorem dX6_partFrom_109 : decode cX6_partFrom 109 = .ok (.iinc 4 1, 3) := by decide +kernel
theorem dX6_partFrom_112 : decode cX6_partFrom 112 = .ok (.goto (-99), 3) := by decide +kernel
theorem dX6_partFrom_115 : decode cX6_partFrom 115 = .ok (.iconst 0, 1) := by decide +kernel
theorem dX6_partFrom_116 : decode cX6_partFrom 116 = .ok (.ireturn, 1) := by decide +kernel
theorem dX6_tellCurtain_0 : decode cX6_tellCurtain 0 = .ok (.aload_n 0, 1) := by decide +kernel
theorem dX6_tellCurtain_1 : decode cX6_tellCurtain 1 = .ok (.getfield 11, 3) := by decide +kernel
theorem dX6_tellCurtain_4 : decode cX6_tellCurtain 4 = .ok (.iload_n 1, 1) := by decide +kernel
theorem dX6_tellCurtain_5 : decode cX6_tellCurtain 5 = .ok (.aaload, 1) := by decide +kernel
theorem dX6_tellCurtain_6 : decode cX6_tellCurtain 6 = .ok (.astore 4, 2) := by decide +kernel
theorem dX6_tellCurtain_8 : decode cX6_tellCurtain 8 = .ok (.aload 4, 2) := by decide +kernel
theorem dX6_tellCurtain_10 : decode cX6_tellCurtain 10 = .ok (.invokevirtual 92, 3) := by decide +kernel
theorem dX6_tellCurtain_13 : decode cX6_tellCurtain 13 = .ok (.iconst 0, 1) := by decide +kernel
theorem dX6_tellCurtain_14 : decode cX6_tellCurtain 14 = .ok (.istore 5, 2) := by decide +kernel
theorem dX6_tellCurtain_16 : decode cX6_tellCurtain 16 = .ok (.iload 5, 2) := by decide +kernel
theorem dX6_tellCurtain_18 : decode cX6_tellCurtain 18 = .ok (.aload_n 0, 1) := by decide +kernel
theorem dX6_tellCurtain_19 : decode cX6_tellCurtain 19 = .ok (.getfield 40, 3) := by decide +kernel
theorem dX6_tellCurtain_22 : decode cX6_tellCurtain 22 = .ok (.if_icmp .ge 102, 3) := by decide +kernel
theorem dX6_tellCurtain_25 : decode cX6_tellCurtain 25 = .ok (.aload_n 0, 1) := by decide +kernel
theorem dX6_tellCurtain_26 : decode cX6_tellCurtain 26 = .ok (.getfield 36, 3) := by decide +kernel
theorem dX6_tellCurtain_29 : decode cX6_tellCurtain 29 = .ok (.iload 5, 2) := by decide +kernel
theorem dX6_tellCurtain_31 : decode cX6_tellCurtain 31 = .ok (.iaload, 1) := by decide +kernel
theorem dX6_tellCurtain_32 : decode cX6_tellCurtain 32 = .ok (.iload_n 1, 1) := by decide +kernel
theorem dX6_tellCurtain_33 : decode cX6_tellCurtain 33 = .ok (.if_icmp .ne 85, 3) := by decide +kernel
theorem dX6_tellCurtain_36 : decode cX6_tellCurtain 36 = .ok (.aload 4, 2) := by decide +kernel
theorem dX6_tellCurtain_38 : decode cX6_tellCurtain 38 = .ok (.aload_n 0, 1) := by decide +kernel
theorem dX6_tellCurtain_39 : decode cX6_tellCurtain 39 = .ok (.getfield 23, 3) := by decide +kernel
theorem dX6_tellCurtain_42 : decode cX6_tellCurtain 42 = .ok (.iload 5, 2) := by decide +kernel
theorem dX6_tellCurtain_44 : decode cX6_tellCurtain 44 = .ok (.iaload, 1) := by decide +kernel
theorem dX6_tellCurtain_45 : decode cX6_tellCurtain 45 = .ok (.aload_n 0, 1) := by decide +kernel
theorem dX6_tellCurtain_46 : decode cX6_tellCurtain 46 = .ok (.getfield 19, 3) := by decide +kernel
theorem dX6_tellCurtain_49 : decode cX6_tellCurtain 49 = .ok (.iload 5, 2) := by decide +kernel
theorem dX6_tellCurtain_51 : decode cX6_tellCurtain 51 = .ok (.aaload, 1) := by decide +kernel
theorem dX6_tellCurtain_52 : decode cX6_tellCurtain 52 = .ok (.invokevirtual 95, 3) := by decide +kernel
theorem dX6_tellCurtain_55 : decode cX6_tellCurtain 55 = .ok (.iload 5, 2) := by decide +kernel
theorem dX6_tellCurtain_57 : decode cX6_tellCurtain 57 = .ok (.iconst 1, 1) := by decide +kernel
theorem dX6_tellCurtain_58 : decode cX6_tellCurtain 58 = .ok (.iadd, 1) := by decide +kernel
theorem dX6_tellCurtain_59 : decode cX6_tellCurtain 59 = .ok (.istore 6, 2) := by decide +kernel
theorem dX6_tellCurtain_61 : decode cX6_tellCurtain 61 = .ok (.iload 6, 2) := by decide +kernel
theorem dX6_tellCurtain_63 : decode cX6_tellCurtain 63 = .ok (.aload_n 0, 1) := by decide +kernel
theorem dX6_tellCurtain_64 : decode cX6_tellCurtain 64 = .ok (.getfield 40, 3) := by decide +kernel
theorem dX6_tellCurtain_67 : decode cX6_tellCurtain 67 = .ok (.if_icmp .ge 51, 3) := by decide +kernel
theorem dX6_tellCurtain_70 : decode cX6_tellCurtain 70 = .ok (.aload_n 0, 1) := by decide +kernel
theorem dX6_tellCurtain_71 : decode cX6_tellCurtain 71 = .ok (.getfield 36, 3) := by decide +kernel
theorem dX6_tellCurtain_74 : decode cX6_tellCurtain 74 = .ok (.iload 6, 2) := by decide +kernel
theorem dX6_tellCurtain_76 : decode cX6_tellCurtain 76 = .ok (.iaload, 1) := by decide +kernel
theorem dX6_tellCurtain_77 : decode cX6_tellCurtain 77 = .ok (.iload_n 1, 1) := by decide +kernel
theorem dX6_tellCurtain_78 : decode cX6_tellCurtain 78 = .ok (.if_icmp .ne 34, 3) := by decide +kernel
theorem dX6_tellCurtain_81 : decode cX6_tellCurtain 81 = .ok (.aload_n 2, 1) := by decide +kernel
theorem dX6_tellCurtain_82 : decode cX6_tellCurtain 82 = .ok (.aload_n 0, 1) := by decide +kernel
theorem dX6_tellCurtain_83 : decode cX6_tellCurtain 83 = .ok (.getfield 19, 3) := by decide +kernel
theorem dX6_tellCurtain_86 : decode cX6_tellCurtain 86 = .ok (.iload 5, 2) := by decide +kernel
theorem dX6_tellCurtain_88 : decode cX6_tellCurtain 88 = .ok (.aaload, 1) := by decide +kernel
theorem dX6_tellCurtain_89 : decode cX6_tellCurtain 89 = .ok (.aload_n 0, 1) := by decide +kernel
theorem dX6_tellCurtain_90 : decode cX6_tellCurtain 90 = .ok (.getfield 19, 3) := by decide +kernel
theorem dX6_tellCurtain_93 : decode cX6_tellCurtain 93 = .ok (.iload 6, 2) := by decide +kernel
theorem dX6_tellCurtain_95 : decode cX6_tellCurtain 95 = .ok (.aaload, 1) := by decide +kernel
theorem dX6_tellCurtain_96 : decode cX6_tellCurtain 96 = .ok (.iload_n 3, 1) := by decide +kernel
theorem dX6_tellCurtain_97 : decode cX6_tellCurtain 97 = .ok (.invokevirtual 81, 3) := by decide +kernel
theorem dX6_tellCurtain_100 : decode cX6_tellCurtain 100 = .ok (.ifCond .eq 12, 3) := by decide +kernel
theorem dX6_tellCurtain_103 : decode cX6_tellCurtain 103 = .ok (.aload 4, 2) := by decide +kernel
theorem dX6_tellCurtain_105 : decode cX6_tellCurtain 105 = .ok (.aload_n 2, 1) := by decide +kernel
theorem dX6_tellCurtain_106 : decode cX6_tellCurtain 106 = .ok (.getfield 99, 3) := by decide +kernel
theorem dX6_tellCurtain_109 : decode cX6_tellCurtain 109 = .ok (.invokevirtual 102, 3) := by decide +kernel
theorem dX6_tellCurtain_112 : decode cX6_tellCurtain 112 = .ok (.iinc 6 1, 3) := by decide +kernel
theorem dX6_tellCurtain_115 : decode cX6_tellCurtain 115 = .ok (.goto (-54), 3) := by decide +kernel
theorem dX6_tellCurtain_118 : decode cX6_tellCurtain 118 = .ok (.iinc 5 1, 3) := by decide +kernel
theorem dX6_tellCurtain_121 : decode cX6_tellCurtain 121 = .ok (.goto (-105), 3) := by decide +kernel
theorem dX6_tellCurtain_124 : decode cX6_tellCurtain 124 = .ok (.aload 4, 2) := by decide +kernel
theorem dX6_tellCurtain_126 : decode cX6_tellCurtain 126 = .ok (.invokevirtual 106, 3) := by decide +kernel
theorem dX6_tellCurtain_129 : decode cX6_tellCurtain 129 = .ok (.return_, 1) := by decide +kernel
theorem dX6_findFollowers_0 : decode cX6_findFollowers 0 = .ok (.iconst 0, 1) := by decide +kernel
theorem dX6_findFollowers_1 : decode cX6_findFollowers 1 = .ok (.istore_n 2, 1) := by decide +kernel
theorem dX6_findFollowers_2 : decode cX6_findFollowers 2 = .ok (.iconst 0, 1) := by decide +kernel
theorem dX6_findFollowers_3 : decode cX6_findFollowers 3 = .ok (.istore_n 3, 1) := by decide +kernel
theorem dX6_findFollowers_4 : decode cX6_findFollowers 4 = .ok (.iload_n 3, 1) := by decide +kernel
theorem dX6_findFollowers_5 : decode cX6_findFollowers 5 = .ok (.aload_n 0, 1) := by decide +kernel
theorem dX6_findFollowers_6 : decode cX6_findFollowers 6 = .ok (.getfield 51, 3) := by decide +kernel
theorem dX6_findFollowers_9 : decode cX6_findFollowers 9 = .ok (.if_icmp .ge 87, 3) := by decide +kernel
theorem dX6_findFollowers_12 : decode cX6_findFollowers 12 = .ok (.iload_n 2, 1) := by decide +kernel
theorem dX6_findFollowers_13 : decode cX6_findFollowers 13 = .ok (.aload_n 0, 1) := by decide +kernel
theorem dX6_findFollowers_14 : decode cX6_findFollowers 14 = .ok (.getfield 11, 3) := by decide +kernel
theorem dX6_findFollowers_17 : decode cX6_findFollowers 17 = .ok (.iload_n 3, 1) := by decide +kernel
theorem dX6_findFollowers_18 : decode cX6_findFollowers 18 = .ok (.aaload, 1) := by decide +kernel
theorem dX6_findFollowers_19 : decode cX6_findFollowers 19 = .ok (.invokevirtual 109, 3) := by decide +kernel
theorem dX6_findFollowers_22 : decode cX6_findFollowers 22 = .ok (.ifCond .eq 7, 3) := by decide +kernel
theorem dX6_findFollowers_25 : decode cX6_findFollowers 25 = .ok (.iconst 1, 1) := by decide +kernel
theorem dX6_findFollowers_26 : decode cX6_findFollowers 26 = .ok (.goto 4, 3) := by decide +kernel
theorem dX6_findFollowers_29 : decode cX6_findFollowers 29 = .ok (.iconst 0, 1) := by decide +kernel
theorem dX6_findFollowers_30 : decode cX6_findFollowers 30 = .ok (.iadd, 1) := by decide +kernel
theorem dX6_findFollowers_31 : decode cX6_findFollowers 31 = .ok (.istore_n 2, 1) := by decide +kernel
theorem dX6_findFollowers_32 : decode cX6_findFollowers 32 = .ok (.aload_n 0, 1) := by decide +kernel
theorem dX6_findFollowers_33 : decode cX6_findFollowers 33 = .ok (.getfield 33, 3) := by decide +kernel
theorem dX6_findFollowers_36 : decode cX6_findFollowers 36 = .ok (.iload_n 3, 1) := by decide +kernel
theorem dX6_findFollowers_37 : decode cX6_findFollowers 37 = .ok (.iconst 0, 1) := by decide +kernel
theorem dX6_findFollowers_38 : decode cX6_findFollowers 38 = .ok (.iastore, 1) := by decide +kernel
theorem dX6_findFollowers_39 : decode cX6_findFollowers 39 = .ok (.iconst 0, 1) := by decide +kernel
theorem dX6_findFollowers_40 : decode cX6_findFollowers 40 = .ok (.istore 4, 2) := by decide +kernel
theorem dX6_findFollowers_42 : decode cX6_findFollowers 42 = .ok (.iload 4, 2) := by decide +kernel
theorem dX6_findFollowers_44 : decode cX6_findFollowers 44 = .ok (.aload_n 0, 1) := by decide +kernel
theorem dX6_findFollowers_45 : decode cX6_findFollowers 45 = .ok (.getfield 51, 3) := by decide +kernel
theorem dX6_findFollowers_48 : decode cX6_findFollowers 48 = .ok (.if_icmp .ge 42, 3) := by decide +kernel
theorem dX6_findFollowers_51 : decode cX6_findFollowers 51 = .ok (.aload_n 0, 1) := by decide +kernel
theorem dX6_findFollowers_52 : decode cX6_findFollowers 52 = .ok (.getfield 11, 3) := by decide +kernel
theorem dX6_findFollowers_55 : decode cX6_findFollowers 55 = .ok (.iload_n 3, 1) := by decide +kernel
theorem dX6_findFollowers_56 : decode cX6_findFollowers 56 = .ok (.aaload, 1) := by decide +kernel
theorem dX6_findFollowers_57 : decode cX6_findFollowers 57 = .ok (.aload_n 0, 1) := by decide +kernel
theorem dX6_findFollowers_58 : decode cX6_findFollowers 58 = .ok (.getfield 11, 3) := by decide +kernel
theorem dX6_findFollowers_61 : decode cX6_findFollowers 61 = .ok (.iload 4, 2) := by decide +kernel
theorem dX6_findFollowers_63 : decode cX6_findFollowers 63 = .ok (.aaload, 1) := by decide +kernel
theorem dX6_findFollowers_64 : decode cX6_findFollowers 64 = .ok (.iload_n 1, 1) := by decide +kernel
theorem dX6_findFollowers_65 : decode cX6_findFollowers 65 = .ok (.invokevirtual 113, 3) := by decide +kernel
theorem dX6_findFollowers_68 : decode cX6_findFollowers 68 = .ok (.ifCond .eq 16, 3) := by decide +kernel
theorem dX6_findFollowers_71 : decode cX6_findFollowers 71 = .ok (.aload_n 0, 1) := by decide +kernel
theorem dX6_findFollowers_72 : decode cX6_findFollowers 72 = .ok (.getfield 33, 3) := by decide +kernel
theorem dX6_findFollowers_75 : decode cX6_findFollowers 75 = .ok (.iload_n 3, 1) := by decide +kernel
theorem dX6_findFollowers_76 : decode cX6_findFollowers 76 = .ok (.dup2, 1) := by decide +kernel
theorem dX6_findFollowers_77 : decode cX6_findFollowers 77 = .ok (.iaload, 1) := by decide +kernel
theorem dX6_findFollowers_78 : decode cX6_findFollowers 78 = .ok (.iconst 1, 1) := by decide +kernel
theorem dX6_findFollowers_79 : decode cX6_findFollowers 79 = .ok (.iload 4, 2) := by decide +kernel
theorem dX6_findFollowers_81 : decode cX6_findFollowers 81 = .ok (.ishl, 1) := by decide +kernel
theorem dX6_findFollowers_82 : decode cX6_findFollowers 82 = .ok (.ior, 1) := by decide +kernel
theorem dX6_findFollowers_83 : decode cX6_findFollowers 83 = .ok (.iastore, 1) := by decide +kernel
theorem dX6_findFollowers_84 : decode cX6_findFollowers 84 = .ok (.iinc 4 1, 3) := by decide +kernel
theorem dX6_findFollowers_87 : decode cX6_findFollowers 87 = .ok (.goto (-45), 3) := by decide +kernel
theorem dX6_findFollowers_90 : decode cX6_findFollowers 90 = .ok (.iinc 3 1, 3) := by decide +kernel
theorem dX6_findFollowers_93 : decode cX6_findFollowers 93 = .ok (.goto (-89), 3) := by decide +kernel
theorem dX6_findFollowers_96 : decode cX6_findFollowers 96 = .ok (.iload_n 2, 1) := by decide +kernel
theorem dX6_findFollowers_97 : decode cX6_findFollowers 97 = .ok (.ireturn, 1) := by decide +kernel
theorem dX6_mostLinks_0 : decode cX6_mostLinks 0 = .ok (.iload_n 1, 1) := by decide +kernel
theorem dX6_mostLinks_1 : decode cX6_mostLinks 1 = .ok (.aload_n 0, 1) := by decide +kernel
theorem dX6_mostLinks_2 : decode cX6_mostLinks 2 = .ok (.getfield 51, 3) := by decide +kernel
theorem dX6_mostLinks_5 : decode cX6_mostLinks 5 = .ok (.if_icmp .lt 5, 3) := by decide +kernel
theorem dX6_mostLinks_8 : decode cX6_mostLinks 8 = .ok (.iconst 0, 1) := by decide +kernel
theorem dX6_mostLinks_9 : decode cX6_mostLinks 9 = .ok (.ireturn, 1) := by decide +kernel
theorem dX6_mostLinks_10 : decode cX6_mostLinks 10 = .ok (.aload_n 0, 1) := by decide +kernel
theorem dX6_mostLinks_11 : decode cX6_mostLinks 11 = .ok (.iload_n 1, 1) := by decide +kernel
theorem dX6_mostLinks_12 : decode cX6_mostLinks 12 = .ok (.iconst 1, 1) := by decide +kernel
theorem dX6_mostLinks_13 : decode cX6_mostLinks 13 = .ok (.iadd, 1) := by decide +kernel
theorem dX6_mostLinks_14 : decode cX6_mostLinks 14 = .ok (.iload_n 2, 1) := by decide +kernel
theorem dX6_mostLinks_15 : decode cX6_mostLinks 15 = .ok (.invokevirtual 66, 3) := by decide +kernel
theorem dX6_mostLinks_18 : decode cX6_mostLinks 18 = .ok (.istore_n 3, 1) := by decide +kernel
theorem dX6_mostLinks_19 : decode cX6_mostLinks 19 = .ok (.iconst 0, 1) := by decide +kernel
theorem dX6_mostLinks_20 : decode cX6_mostLinks 20 = .ok (.istore 4, 2) := by decide +kernel
theorem dX6_mostLinks_22 : decode cX6_mostLinks 22 = .ok (.iload 4, 2) := by decide +kernel
theorem dX6_mostLinks_24 : decode cX6_mostLinks 24 = .ok (.aload_n 0, 1) := by decide +kernel
theorem dX6_mostLinks_25 : decode cX6_mostLinks 25 = .ok (.getfield 51, 3) := by decide +kernel
theorem dX6_mostLinks_28 : decode cX6_mostLinks 28 = .ok (.if_icmp .ge 47, 3) := by decide +kernel
theorem dX6_mostLinks_31 : decode cX6_mostLinks 31 = .ok (.aload_n 0, 1) := by decide +kernel
theorem dX6_mostLinks_32 : decode cX6_mostLinks 32 = .ok (.getfield 33, 3) := by decide +kernel
theorem dX6_mostLinks_35 : decode cX6_mostLinks 35 = .ok (.iload_n 1, 1) := by decide +kernel
theorem dX6_mostLinks_36 : decode cX6_mostLinks 36 = .ok (.iaload, 1) := by decide +kernel
theorem dX6_mostLinks_37 : decode cX6_mostLinks 37 = .ok (.iload_n 2, 1) := by decide +kernel
theorem dX6_mostLinks_38 : decode cX6_mostLinks 38 = .ok (.iconst (-1), 1) := by decide +kernel
theorem dX6_mostLinks_39 : decode cX6_mostLinks 39 = .ok (.ixor, 1) := by decide +kernel
theorem dX6_mostLinks_40 : decode cX6_mostLinks 40 = .ok (.iand, 1) := by decide +kernel
theorem dX6_mostLinks_41 : decode cX6_mostLinks 41 = .ok (.iconst 1, 1) := by decide +kernel
theorem dX6_mostLinks_42 : decode cX6_mostLinks 42 = .ok (.iload 4, 2) := by decide +kernel
theorem dX6_mostLinks_44 : decode cX6_mostLinks 44 = .ok (.ishl, 1) := by decide +kernel
theorem dX6_mostLinks_45 : decode cX6_mostLinks 45 = .ok (.iand, 1) := by decide +kernel
theorem dX6_mostLinks_46 : decode cX6_mostLinks 46 = .ok (.ifCond .eq 23, 3) := by decide +kernel
theorem dX6_mostLinks_49 : decode cX6_mostLinks 49 = .ok (.iload_n 3, 1) := by decide +kernel
theorem dX6_mostLinks_50 : decode cX6_mostLinks 50 = .ok (.iconst 1, 1) := by decide +kernel
theorem dX6_mostLinks_51 : decode cX6_mostLinks 51 = .ok (.aload_n 0, 1) := by decide +kernel
theorem dX6_mostLinks_52 : decode cX6_mostLinks 52 = .ok (.iload_n 1, 1) := by decide +kernel
theorem dX6_mostLinks_53 : decode cX6_mostLinks 53 = .ok (.iconst 1, 1) := by decide +kernel
theorem dX6_mostLinks_54 : decode cX6_mostLinks 54 = .ok (.iadd, 1) := by decide +kernel
theorem dX6_mostLinks_55 : decode cX6_mostLinks 55 = .ok (.iload_n 2, 1) := by decide +kernel
theorem dX6_mostLinks_56 : decode cX6_mostLinks 56 = .ok (.iconst 1, 1) := by decide +kernel
theorem dX6_mostLinks_57 : decode cX6_mostLinks 57 = .ok (.iload 4, 2) := by decide +kernel
theorem dX6_mostLinks_59 : decode cX6_mostLinks 59 = .ok (.ishl, 1) := by decide +kernel
theorem dX6_mostLinks_60 : decode cX6_mostLinks 60 = .ok (.ior, 1) := by decide +kernel
theorem dX6_mostLinks_61 : decode cX6_mostLinks 61 = .ok (.invokevirtual 66, 3) := by decide +kernel
theorem dX6_mostLinks_64 : decode cX6_mostLinks 64 = .ok (.iadd, 1) := by decide +kernel
theorem dX6_mostLinks_65 : decode cX6_mostLinks 65 = .ok (.invokestatic 87, 3) := by decide +kernel
theorem dX6_mostLinks_68 : decode cX6_mostLinks 68 = .ok (.istore_n 3, 1) := by decide +kernel
theorem dX6_mostLinks_69 : decode cX6_mostLinks 69 = .ok (.iinc 4 1, 3) := by decide +kernel
theorem dX6_mostLinks_72 : decode cX6_mostLinks 72 = .ok (.goto (-50), 3) := by decide +kernel
theorem dX6_mostLinks_75 : decode cX6_mostLinks 75 = .ok (.iload_n 3, 1) := by decide +kernel
theorem dX6_mostLinks_76 : decode cX6_mostLinks 76 = .ok (.ireturn, 1) := by decide +kernel
theorem dX6_firstFollower_0 : decode cX6_firstFollower 0 = .ok (.iconst 0, 1) := by decide +kernel
theorem dX6_firstFollower_1 : decode cX6_firstFollower 1 = .ok (.istore 4, 2) := by decide +kernel
theorem dX6_firstFollower_3 : decode cX6_firstFollower 3 = .ok (.iload 4, 2) := by decide +kernel
theorem dX6_firstFollower_5 : decode cX6_firstFollower 5 = .ok (.aload_n 0, 1) := by decide +kernel
theorem dX6_firstFollower_6 : decode cX6_firstFollower 6 = .ok (.getfield 51, 3) := by decide +kernel
theorem dX6_firstFollower_9 : decode cX6_firstFollower 9 = .ok (.if_icmp .ge 61, 3) := by decide +kernel
theorem dX6_firstFollower_12 : decode cX6_firstFollower 12 = .ok (.aload_n 0, 1) := by decide +kernel
theorem dX6_firstFollower_13 : decode cX6_firstFollower 13 = .ok (.getfield 33, 3) := by decide +kernel
theorem dX6_firstFollower_16 : decode cX6_firstFollower 16 = .ok (.iload_n 1, 1) := by decide +kernel
theorem dX6_firstFollower_17 : decode cX6_firstFollower 17 = .ok (.iaload, 1) := by decide +kernel
theorem dX6_firstFollower_18 : decode cX6_firstFollower 18 = .ok (.iload_n 2, 1) := by decide +kernel
theorem dX6_firstFollower_19 : decode cX6_firstFollower 19 = .ok (.iconst (-1), 1) := by decide +kernel
theorem dX6_firstFollower_20 : decode cX6_firstFollower 20 = .ok (.ixor, 1) := by decide +kernel
theorem dX6_firstFollower_21 : decode cX6_firstFollower 21 = .ok (.iand, 1) := by decide +kernel
theorem dX6_firstFollower_22 : decode cX6_firstFollower 22 = .ok (.iconst 1, 1) := by decide +kernel
theorem dX6_firstFollower_23 : decode cX6_firstFollower 23 = .ok (.iload 4, 2) := by decide +kernel
theorem dX6_firstFollower_25 : decode cX6_firstFollower 25 = .ok (.ishl, 1) := by decide +kernel
theorem dX6_firstFollower_26 : decode cX6_firstFollower 26 = .ok (.iand, 1) := by decide +kernel
theorem dX6_firstFollower_27 : decode cX6_firstFollower 27 = .ok (.ifCond .eq 7, 3) := by decide +kernel
theorem dX6_firstFollower_30 : decode cX6_firstFollower 30 = .ok (.iconst 1, 1) := by decide +kernel
theorem dX6_firstFollower_31 : decode cX6_firstFollower 31 = .ok (.goto 4, 3) := by decide +kernel
theorem dX6_firstFollower_34 : decode cX6_firstFollower 34 = .ok (.iconst 0, 1) := by decide +kernel
theorem dX6_firstFollower_35 : decode cX6_firstFollower 35 = .ok (.istore 5, 2) := by decide +kernel
theorem dX6_firstFollower_37 : decode cX6_firstFollower 37 = .ok (.iload 5, 2) := by decide +kernel
theorem dX6_firstFollower_39 : decode cX6_firstFollower 39 = .ok (.ifCond .eq 25, 3) := by decide +kernel
theorem dX6_firstFollower_42 : decode cX6_firstFollower 42 = .ok (.iconst 1, 1) := by decide +kernel
theorem dX6_firstFollower_43 : decode cX6_firstFollower 43 = .ok (.aload_n 0, 1) := by decide +kernel
theorem dX6_firstFollower_44 : decode cX6_firstFollower 44 = .ok (.iload_n 1, 1) := by decide +kernel
theorem dX6_firstFollower_45 : decode cX6_firstFollower 45 = .ok (.iconst 1, 1) := by decide +kernel
theorem dX6_firstFollower_46 : decode cX6_firstFollower 46 = .ok (.iadd, 1) := by decide +kernel
theorem dX6_firstFollower_47 : decode cX6_firstFollower 47 = .ok (.iload_n 2, 1) := by decide +kernel
theorem dX6_firstFollower_48 : decode cX6_firstFollower 48 = .ok (.iconst 1, 1) := by decide +kernel
theorem dX6_firstFollower_49 : decode cX6_firstFollower 49 = .ok (.iload 4, 2) := by decide +kernel
theorem dX6_firstFollower_51 : decode cX6_firstFollower 51 = .ok (.ishl, 1) := by decide +kernel
theorem dX6_firstFollower_52 : decode cX6_firstFollower 52 = .ok (.ior, 1) := by decide +kernel
theorem dX6_firstFollower_53 : decode cX6_firstFollower 53 = .ok (.invokevirtual 66, 3) := by decide +kernel
theorem dX6_firstFollower_56 : decode cX6_firstFollower 56 = .ok (.iadd, 1) := by decide +kernel
theorem dX6_firstFollower_57 : decode cX6_firstFollower 57 = .ok (.iload_n 3, 1) := by decide +kernel
theorem dX6_firstFollower_58 : decode cX6_firstFollower 58 = .ok (.if_icmp .ne 6, 3) := by decide +kernel
theorem dX6_firstFollower_61 : decode cX6_firstFollower 61 = .ok (.iload 4, 2) := by decide +kernel
theorem dX6_firstFollower_63 : decode cX6_firstFollower 63 = .ok (.ireturn, 1) := by decide +kernel
theorem dX6_firstFollower_64 : decode cX6_firstFollower 64 = .ok (.iinc 4 1, 3) := by decide +kernel
theorem dX6_firstFollower_67 : decode cX6_firstFollower 67 = .ok (.goto (-64), 3) := by decide +kernel
theorem dX6_firstFollower_70 : decode cX6_firstFollower 70 = .ok (.bipush (-4), 2) := by decide +kernel
theorem dX6_firstFollower_72 : decode cX6_firstFollower 72 = .ok (.ireturn, 1) := by decide +kernel
theorem dX7_init_0 : decode cX7_init 0 = .ok (.aload_n 0, 1) := by decide +kernel
theorem dX7_init_1 : decode cX7_init 1 = .ok (.invokespecial 1, 3) := by decide +kernel
theorem dX7_init_4 : decode cX7_init 4 = .ok (.aload_n 0, 1) := by decide +kernel
theorem dX7_init_5 : decode cX7_init 5 = .ok (.iload_n 1, 1) := by decide +kernel
theorem dX7_init_6 : decode cX7_init 6 = .ok (.putfield 7, 3) := by decide +kernel
theorem dX7_init_9 : decode cX7_init 9 = .ok (.aload_n 0, 1) := by decide +kernel
theorem dX7_init_10 : decode cX7_init 10 = .ok (.iload_n 2, 1) := by decide +kernel
theorem dX7_init_11 : decode cX7_init 11 = .ok (.putfield 13, 3) := by decide +kernel
theorem dX7_init_14 : decode cX7_init 14 = .ok (.aload_n 0, 1) := by decide +kernel
theorem dX7_init_15 : decode cX7_init 15 = .ok (.iload_n 3, 1) := by decide +kernel
theorem dX7_init_16 : decode cX7_init 16 = .ok (.putfield 16, 3) := by decide +kernel
theorem dX7_init_19 : decode cX7_init 19 = .ok (.return_, 1) := by decide +kernel
theorem dX8_init_0 : decode cX8_init 0 = .ok (.aload_n 0, 1) := by decide +kernel
theorem dX8_init_1 : decode cX8_init 1 = .ok (.invokespecial 1, 3) := by decide +kernel
theorem dX8_init_4 : decode cX8_init 4 = .ok (.aload_n 0, 1) := by decide +kernel
theorem dX8_init_5 : decode cX8_init 5 = .ok (.aload_n 1, 1) := by decide +kernel
theorem dX8_init_6 : decode cX8_init 6 = .ok (.putfield 7, 3) := by decide +kernel
theorem dX8_init_9 : decode cX8_init 9 = .ok (.aload_n 0, 1) := by decide +kernel
theorem dX8_init_10 : decode cX8_init 10 = .ok (.iload_n 2, 1) := by decide +kernel
theorem dX8_init_11 : decode cX8_init 11 = .ok (.putfield 13, 3) := by decide +kernel
theorem dX8_init_14 : decode cX8_init 14 = .ok (.aload_n 0, 1) := by decide +kernel
theorem dX8_init_15 : decode cX8_init 15 = .ok (.iload_n 3, 1) := by decide +kernel
theorem dX8_init_16 : decode cX8_init 16 = .ok (.putfield 17, 3) := by decide +kernel
theorem dX8_init_19 : decode cX8_init 19 = .ok (.aload_n 0, 1) := by decide +kernel
theorem dX8_init_20 : decode cX8_init 20 = .ok (.iload 4, 2) := by decide +kernel
theorem dX8_init_22 : decode cX8_init 22 = .ok (.putfield 20, 3) := by decide +kernel
theorem dX8_init_25 : decode cX8_init 25 = .ok (.return_, 1) := by decide +kernel
theorem dJ9_floorDiv_7cf53_0 : decode cJ9_floorDiv_7cf53 0 = .ok (.iload_n 0, 1) := by decide +kernel
theorem dJ9_floorDiv_7cf53_1 : decode cJ9_floorDiv_7cf53 1 = .ok (.iload_n 1, 1) := by decide +kernel
theorem dJ9_floorDiv_7cf53_2 : decode cJ9_floorDiv_7cf53 2 = .ok (.idiv, 1) := by decide +kernel
theorem dJ9_floorDiv_7cf53_3 : decode cJ9_floorDiv_7cf53 3 = .ok (.istore_n 2, 1) := by decide +kernel
theorem dJ9_floorDiv_7cf53_4 : decode cJ9_floorDiv_7cf53 4 = .ok (.iload_n 0, 1) := by decide +kernel
theorem dJ9_floorDiv_7cf53_5 : decode cJ9_floorDiv_7cf53 5 = .ok (.iload_n 1, 1) := by decide +kernel
theorem dJ9_floorDiv_7cf53_6 : decode cJ9_floorDiv_7cf53 6 = .ok (.ixor, 1) := by decide +kernel
theorem dJ9_floorDiv_7cf53_7 : decode cJ9_floorDiv_7cf53 7 = .ok (.ifCond .ge 14, 3) := by decide +kernel
theorem dJ9_floorDiv_7cf53_10 : decode cJ9_floorDiv_7cf53 10 = .ok (.iload_n 2, 1) := by decide +kernel
theorem dJ9_floorDiv_7cf53_11 : decode cJ9_floorDiv_7cf53 11 = .ok (.iload_n 1, 1) := by decide +kernel
theorem dJ9_floorDiv_7cf53_12 : decode cJ9_floorDiv_7cf53 12 = .ok (.imul, 1) := by decide +kernel
theorem dJ9_floorDiv_7cf53_13 : decode cJ9_floorDiv_7cf53 13 = .ok (.iload_n 0, 1) := by decide +kernel
theorem dJ9_floorDiv_7cf53_14 : decode cJ9_floorDiv_7cf53 14 = .ok (.if_icmp .eq 7, 3) := by decide +kernel
theorem dJ9_floorDiv_7cf53_17 : decode cJ9_floorDiv_7cf53 17 = .ok (.iload_n 2, 1) := by decide +kernel
theorem dJ9_floorDiv_7cf53_18 : decode cJ9_floorDiv_7cf53 18 = .ok (.iconst 1, 1) := by decide +kernel
theorem dJ9_floorDiv_7cf53_19 : decode cJ9_floorDiv_7cf53 19 = .ok (.isub, 1) := by decide +kernel
theorem dJ9_floorDiv_7cf53_20 : decode cJ9_floorDiv_7cf53 20 = .ok (.ireturn, 1) := by decide +kernel
theorem dJ9_floorDiv_7cf53_21 : decode cJ9_floorDiv_7cf53 21 = .ok (.iload_n 2, 1) := by decide +kernel
theorem dJ9_floorDiv_7cf53_22 : decode cJ9_floorDiv_7cf53 22 = .ok (.ireturn, 1) := by decide +kernel
theorem dJ9_floorMod_7cf53_0 : decode cJ9_floorMod_7cf53 0 = .ok (.iload_n 0, 1) := by decide +kernel
theorem dJ9_floorMod_7cf53_1 : decode cJ9_floorMod_7cf53 1 = .ok (.iload_n 1, 1) := by decide +kernel
theorem dJ9_floorMod_7cf53_2 : decode cJ9_floorMod_7cf53 2 = .ok (.irem, 1) := by decide +kernel
theorem dJ9_floorMod_7cf53_3 : decode cJ9_floorMod_7cf53 3 = .ok (.istore_n 2, 1) := by decide +kernel
theorem dJ9_floorMod_7cf53_4 : decode cJ9_floorMod_7cf53 4 = .ok (.iload_n 0, 1) := by decide +kernel
theorem dJ9_floorMod_7cf53_5 : decode cJ9_floorMod_7cf53 5 = .ok (.iload_n 1, 1) := by decide +kernel
theorem dJ9_floorMod_7cf53_6 : decode cJ9_floorMod_7cf53 6 = .ok (.ixor, 1) := by decide +kernel
theorem dJ9_floorMod_7cf53_7 : decode cJ9_floorMod_7cf53 7 = .ok (.ifCond .ge 11, 3) := by decide +kernel
theorem dJ9_floorMod_7cf53_10 : decode cJ9_floorMod_7cf53 10 = .ok (.iload_n 2, 1) := by decide +kernel
theorem dJ9_floorMod_7cf53_11 : decode cJ9_floorMod_7cf53 11 = .ok (.ifCond .eq 7, 3) := by decide +kernel
theorem dJ9_floorMod_7cf53_14 : decode cJ9_floorMod_7cf53 14 = .ok (.iload_n 2, 1) := by decide +kernel
theorem dJ9_floorMod_7cf53_15 : decode cJ9_floorMod_7cf53 15 = .ok (.iload_n 1, 1) := by decide +kernel
theorem dJ9_floorMod_7cf53_16 : decode cJ9_floorMod_7cf53 16 = .ok (.iadd, 1) := by decide +kernel
theorem dJ9_floorMod_7cf53_17 : decode cJ9_floorMod_7cf53 17 = .ok (.ireturn, 1) := by decide +kernel
theorem dJ9_floorMod_7cf53_18 : decode cJ9_floorMod_7cf53 18 = .ok (.iload_n 2, 1) := by decide +kernel
theorem dJ9_floorMod_7cf53_19 : decode cJ9_floorMod_7cf53 19 = .ok (.ireturn, 1) := by decide +kernel
theorem dJ9_abs_0f7a4_0 : decode cJ9_abs_0f7a4 0 = .ok (.iload_n 0, 1) := by decide +kernel
theorem dJ9_abs_0f7a4_1 : decode cJ9_abs_0f7a4 1 = .ok (.ifCond .ge 8, 3) := by decide +kernel
theorem dJ9_abs_0f7a4_4 : decode cJ9_abs_0f7a4 4 = .ok (.iload_n 0, 1) := by decide +kernel
theorem dJ9_abs_0f7a4_5 : decode cJ9_abs_0f7a4 5 = .ok (.ineg, 1) := by decide +kernel
theorem dJ9_abs_0f7a4_6 : decode cJ9_abs_0f7a4 6 = .ok (.goto 4, 3) := by decide +kernel
theorem dJ9_abs_0f7a4_9 : decode cJ9_abs_0f7a4 9 = .ok (.iload_n 0, 1) := by decide +kernel
theorem dJ9_abs_0f7a4_10 : decode cJ9_abs_0f7a4 10 = .ok (.ireturn, 1) := by decide +kernel
theorem dJ9_max_7cf53_0 : decode cJ9_max_7cf53 0 = .ok (.iload_n 0, 1) := by decide +kernel
theorem dJ9_max_7cf53_1 : decode cJ9_max_7cf53 1 = .ok (.iload_n 1, 1) := by decide +kernel
theorem dJ9_max_7cf53_2 : decode cJ9_max_7cf53 2 = .ok (.if_icmp .lt 7, 3) := by decide +kernel
theorem dJ9_max_7cf53_5 : decode cJ9_max_7cf53 5 = .ok (.iload_n 0, 1) := by decide +kernel
theorem dJ9_max_7cf53_6 : decode cJ9_max_7cf53 6 = .ok (.goto 4, 3) := by decide +kernel
theorem dJ9_max_7cf53_9 : decode cJ9_max_7cf53 9 = .ok (.iload_n 1, 1) := by decide +kernel
theorem dJ9_max_7cf53_10 : decode cJ9_max_7cf53 10 = .ok (.ireturn, 1) := by decide +kernel
theorem dJ9_min_7cf53_0 : decode cJ9_min_7cf53 0 = .ok (.iload_n 0, 1) := by decide +kernel
theorem dJ9_min_7cf53_1 : decode cJ9_min_7cf53 1 = .ok (.iload_n 1, 1) := by decide +kernel
theorem dJ9_min_7cf53_2 : decode cJ9_min_7cf53 2 = .ok (.if_icmp .gt 7, 3) := by decide +kernel
theorem dJ9_min_7cf53_5 : decode cJ9_min_7cf53 5 = .ok (.iload_n 0, 1) := by decide +kernel
theorem dJ9_min_7cf53_6 : decode cJ9_min_7cf53 6 = .ok (.goto 4, 3) := by decide +kernel
theorem dJ9_min_7cf53_9 : decode cJ9_min_7cf53 9 = .ok (.iload_n 1, 1) := by decide +kernel
theorem dJ9_min_7cf53_10 : decode cJ9_min_7cf53 10 = .ok (.ireturn, 1) := by decide +kernel
