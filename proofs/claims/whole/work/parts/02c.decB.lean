theorem dX10_curtain_12 : decode cX10_curtain 12 = .ok (.i2l, 1) := by decide +kernel
theorem dX10_curtain_13 : decode cX10_curtain 13 = .ok (.lconst 0, 1) := by decide +kernel
theorem dX10_curtain_14 : decode cX10_curtain 14 = .ok (.ldc2_w 263, 3) := by decide +kernel
theorem dX10_curtain_17 : decode cX10_curtain 17 = .ok (.invokestatic 143, 3) := by decide +kernel
theorem dX10_curtain_20 : decode cX10_curtain 20 = .ok (.ifCond .ne 6, 3) := by decide +kernel
theorem dX10_curtain_23 : decode cX10_curtain 23 = .ok (.ldc 151, 2) := by decide +kernel
theorem dX10_curtain_25 : decode cX10_curtain 25 = .ok (.ireturn, 1) := by decide +kernel
theorem dX10_curtain_26 : decode cX10_curtain 26 = .ok (.aload_n 0, 1) := by decide +kernel
theorem dX10_curtain_27 : decode cX10_curtain 27 = .ok (.iload_n 1, 1) := by decide +kernel
theorem dX10_curtain_28 : decode cX10_curtain 28 = .ok (.invokevirtual 260, 3) := by decide +kernel
theorem dX10_curtain_31 : decode cX10_curtain 31 = .ok (.istore 4, 2) := by decide +kernel
theorem dX10_curtain_33 : decode cX10_curtain 33 = .ok (.iload 4, 2) := by decide +kernel
theorem dX10_curtain_35 : decode cX10_curtain 35 = .ok (.ifCond .ge 10, 3) := by decide +kernel
theorem dX10_curtain_38 : decode cX10_curtain 38 = .ok (.iload 4, 2) := by decide +kernel
theorem dX10_curtain_40 : decode cX10_curtain 40 = .ok (.ldc_w 265, 3) := by decide +kernel
theorem dX10_curtain_43 : decode cX10_curtain 43 = .ok (.isub, 1) := by decide +kernel
theorem dX10_curtain_44 : decode cX10_curtain 44 = .ok (.ireturn, 1) := by decide +kernel
theorem dX10_curtain_45 : decode cX10_curtain 45 = .ok (.iload_n 2, 1) := by decide +kernel
theorem dX10_curtain_46 : decode cX10_curtain 46 = .ok (.iload 4, 2) := by decide +kernel
theorem dX10_curtain_48 : decode cX10_curtain 48 = .ok (.if_icmp .lt 6, 3) := by decide +kernel
theorem dX10_curtain_51 : decode cX10_curtain 51 = .ok (.ldc 151, 2) := by decide +kernel
theorem dX10_curtain_53 : decode cX10_curtain 53 = .ok (.ireturn, 1) := by decide +kernel
theorem dX10_curtain_54 : decode cX10_curtain 54 = .ok (.iload_n 3, 1) := by decide +kernel
theorem dX10_curtain_55 : decode cX10_curtain 55 = .ok (.iconst 1, 1) := by decide +kernel
theorem dX10_curtain_56 : decode cX10_curtain 56 = .ok (.if_icmp .le 21, 3) := by decide +kernel
theorem dX10_curtain_59 : decode cX10_curtain 59 = .ok (.iload_n 3, 1) := by decide +kernel
theorem dX10_curtain_60 : decode cX10_curtain 60 = .ok (.iconst 5, 1) := by decide +kernel
theorem dX10_curtain_61 : decode cX10_curtain 61 = .ok (.if_icmp .ge 16, 3) := by decide +kernel
theorem dX10_curtain_64 : decode cX10_curtain 64 = .ok (.aload_n 0, 1) := by decide +kernel
theorem dX10_curtain_65 : decode cX10_curtain 65 = .ok (.getfield 68, 3) := by decide +kernel
theorem dX10_curtain_68 : decode cX10_curtain 68 = .ok (.iload_n 2, 1) := by decide +kernel
theorem dX10_curtain_69 : decode cX10_curtain 69 = .ok (.iaload, 1) := by decide +kernel
theorem dX10_curtain_70 : decode cX10_curtain 70 = .ok (.iconst 2, 1) := by decide +kernel
theorem dX10_curtain_71 : decode cX10_curtain 71 = .ok (.if_icmp .ge 6, 3) := by decide +kernel
theorem dX10_curtain_74 : decode cX10_curtain 74 = .ok (.ldc 233, 2) := by decide +kernel
theorem dX10_curtain_76 : decode cX10_curtain 76 = .ok (.ireturn, 1) := by decide +kernel
theorem dX10_curtain_77 : decode cX10_curtain 77 = .ok (.iload_n 3, 1) := by decide +kernel
theorem dX10_curtain_78 : decode cX10_curtain 78 = .ok (.ifCond .ne 12, 3) := by decide +kernel
theorem dX10_curtain_81 : decode cX10_curtain 81 = .ok (.aload_n 0, 1) := by decide +kernel
theorem dX10_curtain_82 : decode cX10_curtain 82 = .ok (.getfield 68, 3) := by decide +kernel
theorem dX10_curtain_85 : decode cX10_curtain 85 = .ok (.iload_n 2, 1) := by decide +kernel
theorem dX10_curtain_86 : decode cX10_curtain 86 = .ok (.iaload, 1) := by decide +kernel
theorem dX10_curtain_87 : decode cX10_curtain 87 = .ok (.goto 65, 3) := by decide +kernel
theorem dX10_curtain_90 : decode cX10_curtain 90 = .ok (.iload_n 3, 1) := by decide +kernel
theorem dX10_curtain_91 : decode cX10_curtain 91 = .ok (.iconst 1, 1) := by decide +kernel
theorem dX10_curtain_92 : decode cX10_curtain 92 = .ok (.if_icmp .ne 12, 3) := by decide +kernel
theorem dX10_curtain_95 : decode cX10_curtain 95 = .ok (.aload_n 0, 1) := by decide +kernel
theorem dX10_curtain_96 : decode cX10_curtain 96 = .ok (.getfield 71, 3) := by decide +kernel
theorem dX10_curtain_99 : decode cX10_curtain 99 = .ok (.iload_n 2, 1) := by decide +kernel
theorem dX10_curtain_100 : decode cX10_curtain 100 = .ok (.iaload, 1) := by decide +kernel
theorem dX10_curtain_101 : decode cX10_curtain 101 = .ok (.goto 51, 3) := by decide +kernel
theorem dX10_curtain_104 : decode cX10_curtain 104 = .ok (.iload_n 3, 1) := by decide +kernel
theorem dX10_curtain_105 : decode cX10_curtain 105 = .ok (.iconst 2, 1) := by decide +kernel
theorem dX10_curtain_106 : decode cX10_curtain 106 = .ok (.if_icmp .ne 12, 3) := by decide +kernel
theorem dX10_curtain_109 : decode cX10_curtain 109 = .ok (.aload_n 0, 1) := by decide +kernel
theorem dX10_curtain_110 : decode cX10_curtain 110 = .ok (.getfield 74, 3) := by decide +kernel
theorem dX10_curtain_113 : decode cX10_curtain 113 = .ok (.iload_n 2, 1) := by decide +kernel
theorem dX10_curtain_114 : decode cX10_curtain 114 = .ok (.iaload, 1) := by decide +kernel
theorem dX10_curtain_115 : decode cX10_curtain 115 = .ok (.goto 37, 3) := by decide +kernel
theorem dX10_curtain_118 : decode cX10_curtain 118 = .ok (.iload_n 3, 1) := by decide +kernel
theorem dX10_curtain_119 : decode cX10_curtain 119 = .ok (.iconst 3, 1) := by decide +kernel
theorem dX10_curtain_120 : decode cX10_curtain 120 = .ok (.if_icmp .ne 12, 3) := by decide +kernel
theorem dX10_curtain_123 : decode cX10_curtain 123 = .ok (.aload_n 0, 1) := by decide +kernel
theorem dX10_curtain_124 : decode cX10_curtain 124 = .ok (.getfield 77, 3) := by decide +kernel
theorem dX10_curtain_127 : decode cX10_curtain 127 = .ok (.iload_n 2, 1) := by decide +kernel
theorem dX10_curtain_128 : decode cX10_curtain 128 = .ok (.iaload, 1) := by decide +kernel
theorem dX10_curtain_129 : decode cX10_curtain 129 = .ok (.goto 23, 3) := by decide +kernel
theorem dX10_curtain_132 : decode cX10_curtain 132 = .ok (.iload_n 3, 1) := by decide +kernel
theorem dX10_curtain_133 : decode cX10_curtain 133 = .ok (.iconst 4, 1) := by decide +kernel
theorem dX10_curtain_134 : decode cX10_curtain 134 = .ok (.if_icmp .ne 12, 3) := by decide +kernel
theorem dX10_curtain_137 : decode cX10_curtain 137 = .ok (.aload_n 0, 1) := by decide +kernel
theorem dX10_curtain_138 : decode cX10_curtain 138 = .ok (.getfield 80, 3) := by decide +kernel
theorem dX10_curtain_141 : decode cX10_curtain 141 = .ok (.iload_n 2, 1) := by decide +kernel
theorem dX10_curtain_142 : decode cX10_curtain 142 = .ok (.iaload, 1) := by decide +kernel
theorem dX10_curtain_143 : decode cX10_curtain 143 = .ok (.goto 9, 3) := by decide +kernel
theorem dX10_curtain_146 : decode cX10_curtain 146 = .ok (.aload_n 0, 1) := by decide +kernel
theorem dX10_curtain_147 : decode cX10_curtain 147 = .ok (.getfield 83, 3) := by decide +kernel
theorem dX10_curtain_150 : decode cX10_curtain 150 = .ok (.iload_n 2, 1) := by decide +kernel
theorem dX10_curtain_151 : decode cX10_curtain 151 = .ok (.iaload, 1) := by decide +kernel
theorem dX10_curtain_152 : decode cX10_curtain 152 = .ok (.ireturn, 1) := by decide +kernel
theorem dX10_curtainOf_0 : decode cX10_curtainOf 0 = .ok (.aload_n 0, 1) := by decide +kernel
theorem dX10_curtainOf_1 : decode cX10_curtainOf 1 = .ok (.iload_n 1, 1) := by decide +kernel
theorem dX10_curtainOf_2 : decode cX10_curtainOf 2 = .ok (.invokevirtual 194, 3) := by decide +kernel
theorem dX10_curtainOf_5 : decode cX10_curtainOf 5 = .ok (.ifCond .ne 5, 3) := by decide +kernel
theorem dX10_curtainOf_8 : decode cX10_curtainOf 8 = .ok (.iconst (-1), 1) := by decide +kernel
theorem dX10_curtainOf_9 : decode cX10_curtainOf 9 = .ok (.ireturn, 1) := by decide +kernel
theorem dX10_curtainOf_10 : decode cX10_curtainOf 10 = .ok (.aload_n 0, 1) := by decide +kernel
theorem dX10_curtainOf_11 : decode cX10_curtainOf 11 = .ok (.getfield 28, 3) := by decide +kernel
theorem dX10_curtainOf_14 : decode cX10_curtainOf 14 = .ok (.iload_n 1, 1) := by decide +kernel
theorem dX10_curtainOf_15 : decode cX10_curtainOf 15 = .ok (.iaload, 1) := by decide +kernel
theorem dX10_curtainOf_16 : decode cX10_curtainOf 16 = .ok (.ifCond .ne 6, 3) := by decide +kernel
theorem dX10_curtainOf_19 : decode cX10_curtainOf 19 = .ok (.bipush (-12), 2) := by decide +kernel
theorem dX10_curtainOf_21 : decode cX10_curtainOf 21 = .ok (.ireturn, 1) := by decide +kernel
theorem dX10_curtainOf_22 : decode cX10_curtainOf 22 = .ok (.aload_n 0, 1) := by decide +kernel
theorem dX10_curtainOf_23 : decode cX10_curtainOf 23 = .ok (.aload_n 0, 1) := by decide +kernel
theorem dX10_curtainOf_24 : decode cX10_curtainOf 24 = .ok (.getfield 34, 3) := by decide +kernel
theorem dX10_curtainOf_27 : decode cX10_curtainOf 27 = .ok (.iload_n 1, 1) := by decide +kernel
theorem dX10_curtainOf_28 : decode cX10_curtainOf 28 = .ok (.iaload, 1) := by decide +kernel
theorem dX10_curtainOf_29 : decode cX10_curtainOf 29 = .ok (.invokevirtual 260, 3) := by decide +kernel
theorem dX10_curtainOf_32 : decode cX10_curtainOf 32 = .ok (.istore_n 2, 1) := by decide +kernel
theorem dX10_curtainOf_33 : decode cX10_curtainOf 33 = .ok (.iload_n 2, 1) := by decide +kernel
theorem dX10_curtainOf_34 : decode cX10_curtainOf 34 = .ok (.ifCond .ge 5, 3) := by decide +kernel
theorem dX10_curtainOf_37 : decode cX10_curtainOf 37 = .ok (.iload_n 2, 1) := by decide +kernel
theorem dX10_curtainOf_38 : decode cX10_curtainOf 38 = .ok (.ireturn, 1) := by decide +kernel
theorem dX10_curtainOf_39 : decode cX10_curtainOf 39 = .ok (.iconst 0, 1) := by decide +kernel
theorem dX10_curtainOf_40 : decode cX10_curtainOf 40 = .ok (.istore_n 3, 1) := by decide +kernel
theorem dX10_curtainOf_41 : decode cX10_curtainOf 41 = .ok (.aload_n 0, 1) := by decide +kernel
theorem dX10_curtainOf_42 : decode cX10_curtainOf 42 = .ok (.getfield 56, 3) := by decide +kernel
theorem dX10_curtainOf_45 : decode cX10_curtainOf 45 = .ok (.iload_n 3, 1) := by decide +kernel
theorem dX10_curtainOf_46 : decode cX10_curtainOf 46 = .ok (.iaload, 1) := by decide +kernel
theorem dX10_curtainOf_47 : decode cX10_curtainOf 47 = .ok (.iload_n 1, 1) := by decide +kernel
theorem dX10_curtainOf_48 : decode cX10_curtainOf 48 = .ok (.if_icmp .eq 9, 3) := by decide +kernel
theorem dX10_curtainOf_51 : decode cX10_curtainOf 51 = .ok (.iinc 3 1, 3) := by decide +kernel
theorem dX10_curtainOf_54 : decode cX10_curtainOf 54 = .ok (.goto (-13), 3) := by decide +kernel
theorem dX10_curtainOf_57 : decode cX10_curtainOf 57 = .ok (.aload_n 0, 1) := by decide +kernel
theorem dX10_curtainOf_58 : decode cX10_curtainOf 58 = .ok (.getfield 59, 3) := by decide +kernel
theorem dX10_curtainOf_61 : decode cX10_curtainOf 61 = .ok (.iload_n 3, 1) := by decide +kernel
theorem dX10_curtainOf_62 : decode cX10_curtainOf 62 = .ok (.iaload, 1) := by decide +kernel
theorem dX10_curtainOf_63 : decode cX10_curtainOf 63 = .ok (.ireturn, 1) := by decide +kernel
theorem dX10_speed_0 : decode cX10_speed 0 = .ok (.iload_n 1, 1) := by decide +kernel
theorem dX10_speed_1 : decode cX10_speed 1 = .ok (.i2l, 1) := by decide +kernel
theorem dX10_speed_2 : decode cX10_speed 2 = .ok (.lconst 1, 1) := by decide +kernel
theorem dX10_speed_3 : decode cX10_speed 3 = .ok (.ldc2_w 166, 3) := by decide +kernel
theorem dX10_speed_6 : decode cX10_speed 6 = .ok (.invokestatic 143, 3) := by decide +kernel
theorem dX10_speed_9 : decode cX10_speed 9 = .ok (.ifCond .ne 5, 3) := by decide +kernel
theorem dX10_speed_12 : decode cX10_speed 12 = .ok (.iconst (-1), 1) := by decide +kernel
theorem dX10_speed_13 : decode cX10_speed 13 = .ok (.ireturn, 1) := by decide +kernel
theorem dX10_speed_14 : decode cX10_speed 14 = .ok (.aload_n 0, 1) := by decide +kernel
theorem dX10_speed_15 : decode cX10_speed 15 = .ok (.getfield 86, 3) := by decide +kernel
theorem dX10_speed_18 : decode cX10_speed 18 = .ok (.istore_n 2, 1) := by decide +kernel
theorem dX10_speed_19 : decode cX10_speed 19 = .ok (.aload_n 0, 1) := by decide +kernel
theorem dX10_speed_20 : decode cX10_speed 20 = .ok (.iload_n 1, 1) := by decide +kernel
theorem dX10_speed_21 : decode cX10_speed 21 = .ok (.putfield 86, 3) := by decide +kernel
theorem dX10_speed_24 : decode cX10_speed 24 = .ok (.iload_n 2, 1) := by decide +kernel
theorem dX10_speed_25 : decode cX10_speed 25 = .ok (.ireturn, 1) := by decide +kernel
theorem dX10_canFollow_0 : decode cX10_canFollow 0 = .ok (.iload_n 1, 1) := by decide +kernel
theorem dX10_canFollow_1 : decode cX10_canFollow 1 = .ok (.iload_n 2, 1) := by decide +kernel
theorem dX10_canFollow_2 : decode cX10_canFollow 2 = .ok (.if_icmp .eq 38, 3) := by decide +kernel
theorem dX10_canFollow_5 : decode cX10_canFollow 5 = .ok (.aload_n 0, 1) := by decide +kernel
theorem dX10_canFollow_6 : decode cX10_canFollow 6 = .ok (.getfield 68, 3) := by decide +kernel
theorem dX10_canFollow_9 : decode cX10_canFollow 9 = .ok (.iload_n 1, 1) := by decide +kernel
theorem dX10_canFollow_10 : decode cX10_canFollow 10 = .ok (.iaload, 1) := by decide +kernel
theorem dX10_canFollow_11 : decode cX10_canFollow 11 = .ok (.iconst 2, 1) := by decide +kernel
theorem dX10_canFollow_12 : decode cX10_canFollow 12 = .ok (.if_icmp .lt 28, 3) := by decide +kernel
theorem dX10_canFollow_15 : decode cX10_canFollow 15 = .ok (.aload_n 0, 1) := by decide +kernel
theorem dX10_canFollow_16 : decode cX10_canFollow 16 = .ok (.getfield 68, 3) := by decide +kernel
theorem dX10_canFollow_19 : decode cX10_canFollow 19 = .ok (.iload_n 2, 1) := by decide +kernel
theorem dX10_canFollow_20 : decode cX10_canFollow 20 = .ok (.iaload, 1) := by decide +kernel
theorem dX10_canFollow_21 : decode cX10_canFollow 21 = .ok (.iconst 2, 1) := by decide +kernel
theorem dX10_canFollow_22 : decode cX10_canFollow 22 = .ok (.if_icmp .lt 18, 3) := by decide +kernel
theorem dX10_canFollow_25 : decode cX10_canFollow 25 = .ok (.aload_n 0, 1) := by decide +kernel
theorem dX10_canFollow_26 : decode cX10_canFollow 26 = .ok (.getfield 71, 3) := by decide +kernel
theorem dX10_canFollow_29 : decode cX10_canFollow 29 = .ok (.iload_n 2, 1) := by decide +kernel
theorem dX10_canFollow_30 : decode cX10_canFollow 30 = .ok (.iaload, 1) := by decide +kernel
theorem dX10_canFollow_31 : decode cX10_canFollow 31 = .ok (.aload_n 0, 1) := by decide +kernel
theorem dX10_canFollow_32 : decode cX10_canFollow 32 = .ok (.getfield 71, 3) := by decide +kernel
theorem dX10_canFollow_35 : decode cX10_canFollow 35 = .ok (.iload_n 1, 1) := by decide +kernel
theorem dX10_canFollow_36 : decode cX10_canFollow 36 = .ok (.iaload, 1) := by decide +kernel
theorem dX10_canFollow_37 : decode cX10_canFollow 37 = .ok (.if_icmp .gt 5, 3) := by decide +kernel
theorem dX10_canFollow_40 : decode cX10_canFollow 40 = .ok (.iconst 0, 1) := by decide +kernel
theorem dX10_canFollow_41 : decode cX10_canFollow 41 = .ok (.ireturn, 1) := by decide +kernel
theorem dX10_canFollow_42 : decode cX10_canFollow 42 = .ok (.aload_n 0, 1) := by decide +kernel
theorem dX10_canFollow_43 : decode cX10_canFollow 43 = .ok (.getfield 74, 3) := by decide +kernel
theorem dX10_canFollow_46 : decode cX10_canFollow 46 = .ok (.iload_n 2, 1) := by decide +kernel
theorem dX10_canFollow_47 : decode cX10_canFollow 47 = .ok (.iaload, 1) := by decide +kernel
theorem dX10_canFollow_48 : decode cX10_canFollow 48 = .ok (.aload_n 0, 1) := by decide +kernel
theorem dX10_canFollow_49 : decode cX10_canFollow 49 = .ok (.getfield 74, 3) := by decide +kernel
theorem dX10_canFollow_52 : decode cX10_canFollow 52 = .ok (.iload_n 1, 1) := by decide +kernel
theorem dX10_canFollow_53 : decode cX10_canFollow 53 = .ok (.iaload, 1) := by decide +kernel
theorem dX10_canFollow_54 : decode cX10_canFollow 54 = .ok (.isub, 1) := by decide +kernel
theorem dX10_canFollow_55 : decode cX10_canFollow 55 = .ok (.i2l, 1) := by decide +kernel
theorem dX10_canFollow_56 : decode cX10_canFollow 56 = .ok (.lstore_n 3, 1) := by decide +kernel
theorem dX10_canFollow_57 : decode cX10_canFollow 57 = .ok (.aload_n 0, 1) := by decide +kernel
theorem dX10_canFollow_58 : decode cX10_canFollow 58 = .ok (.getfield 77, 3) := by decide +kernel
theorem dX10_canFollow_61 : decode cX10_canFollow 61 = .ok (.iload_n 2, 1) := by decide +kernel
theorem dX10_canFollow_62 : decode cX10_canFollow 62 = .ok (.iaload, 1) := by decide +kernel
theorem dX10_canFollow_63 : decode cX10_canFollow 63 = .ok (.aload_n 0, 1) := by decide +kernel
theorem dX10_canFollow_64 : decode cX10_canFollow 64 = .ok (.getfield 77, 3) := by decide +kernel
theorem dX10_canFollow_67 : decode cX10_canFollow 67 = .ok (.iload_n 1, 1) := by decide +kernel
theorem dX10_canFollow_68 : decode cX10_canFollow 68 = .ok (.iaload, 1) := by decide +kernel
theorem dX10_canFollow_69 : decode cX10_canFollow 69 = .ok (.isub, 1) := by decide +kernel
theorem dX10_canFollow_70 : decode cX10_canFollow 70 = .ok (.i2l, 1) := by decide +kernel
theorem dX10_canFollow_71 : decode cX10_canFollow 71 = .ok (.lstore 5, 2) := by decide +kernel
theorem dX10_canFollow_73 : decode cX10_canFollow 73 = .ok (.aload_n 0, 1) := by decide +kernel
theorem dX10_canFollow_74 : decode cX10_canFollow 74 = .ok (.getfield 86, 3) := by decide +kernel
theorem dX10_canFollow_77 : decode cX10_canFollow 77 = .ok (.i2l, 1) := by decide +kernel
theorem dX10_canFollow_78 : decode cX10_canFollow 78 = .ok (.aload_n 0, 1) := by decide +kernel
theorem dX10_canFollow_79 : decode cX10_canFollow 79 = .ok (.getfield 71, 3) := by decide +kernel
theorem dX10_canFollow_82 : decode cX10_canFollow 82 = .ok (.iload_n 2, 1) := by decide +kernel
theorem dX10_canFollow_83 : decode cX10_canFollow 83 = .ok (.iaload, 1) := by decide +kernel
theorem dX10_canFollow_84 : decode cX10_canFollow 84 = .ok (.aload_n 0, 1) := by decide +kernel
theorem dX10_canFollow_85 : decode cX10_canFollow 85 = .ok (.getfield 71, 3) := by decide +kernel
theorem dX10_canFollow_88 : decode cX10_canFollow 88 = .ok (.iload_n 1, 1) := by decide +kernel
theorem dX10_canFollow_89 : decode cX10_canFollow 89 = .ok (.iaload, 1) := by decide +kernel
theorem dX10_canFollow_90 : decode cX10_canFollow 90 = .ok (.isub, 1) := by decide +kernel
theorem dX10_canFollow_91 : decode cX10_canFollow 91 = .ok (.i2l, 1) := by decide +kernel
theorem dX10_canFollow_92 : decode cX10_canFollow 92 = .ok (.lmul, 1) := by decide +kernel
theorem dX10_canFollow_93 : decode cX10_canFollow 93 = .ok (.lstore 7, 2) := by decide +kernel
theorem dX10_canFollow_95 : decode cX10_canFollow 95 = .ok (.lload_n 3, 1) := by decide +kernel
theorem dX10_canFollow_96 : decode cX10_canFollow 96 = .ok (.lload_n 3, 1) := by decide +kernel
theorem dX10_canFollow_97 : decode cX10_canFollow 97 = .ok (.lmul, 1) := by decide +kernel
theorem dX10_canFollow_98 : decode cX10_canFollow 98 = .ok (.lload 5, 2) := by decide +kernel
theorem dX10_canFollow_100 : decode cX10_canFollow 100 = .ok (.lload 5, 2) := by decide +kernel
theorem dX10_canFollow_102 : decode cX10_canFollow 102 = .ok (.lmul, 1) := by decide +kernel
theorem dX10_canFollow_103 : decode cX10_canFollow 103 = .ok (.ladd, 1) := by decide +kernel
theorem dX10_canFollow_104 : decode cX10_canFollow 104 = .ok (.lload 7, 2) := by decide +kernel
theorem dX10_canFollow_106 : decode cX10_canFollow 106 = .ok (.lload 7, 2) := by decide +kernel
theorem dX10_canFollow_108 : decode cX10_canFollow 108 = .ok (.lmul, 1) := by decide +kernel
theorem dX10_canFollow_109 : decode cX10_canFollow 109 = .ok (.lcmp, 1) := by decide +kernel
theorem dX10_canFollow_110 : decode cX10_canFollow 110 = .ok (.ifCond .gt 7, 3) := by decide +kernel
theorem dX10_canFollow_113 : decode cX10_canFollow 113 = .ok (.iconst 1, 1) := by decide +kernel
theorem dX10_canFollow_114 : decode cX10_canFollow 114 = .ok (.goto 4, 3) := by decide +kernel
theorem dX10_canFollow_117 : decode cX10_canFollow 117 = .ok (.iconst 0, 1) := by decide +kernel
theorem dX10_canFollow_118 : decode cX10_canFollow 118 = .ok (.ireturn, 1) := by decide +kernel
theorem dX10_findWays_0 : decode cX10_findWays 0 = .ok (.iconst 1, 1) := by decide +kernel
theorem dX10_findWays_1 : decode cX10_findWays 1 = .ok (.aload_n 0, 1) := by decide +kernel
theorem dX10_findWays_2 : decode cX10_findWays 2 = .ok (.getfield 254, 3) := by decide +kernel
theorem dX10_findWays_5 : decode cX10_findWays 5 = .ok (.ishl, 1) := by decide +kernel
theorem dX10_findWays_6 : decode cX10_findWays 6 = .ok (.istore_n 1, 1) := by decide +kernel
theorem dX10_findWays_7 : decode cX10_findWays 7 = .ok (.iconst 0, 1) := by decide +kernel
theorem dX10_findWays_8 : decode cX10_findWays 8 = .ok (.istore_n 2, 1) := by decide +kernel
theorem dX10_findWays_9 : decode cX10_findWays 9 = .ok (.iload_n 2, 1) := by decide +kernel
theorem dX10_findWays_10 : decode cX10_findWays 10 = .ok (.iload_n 1, 1) := by decide +kernel
theorem dX10_findWays_11 : decode cX10_findWays 11 = .ok (.if_icmp .ge 25, 3) := by decide +kernel
theorem dX10_findWays_14 : decode cX10_findWays 14 = .ok (.aload_n 0, 1) := by decide +kernel
theorem dX10_findWays_15 : decode cX10_findWays 15 = .ok (.getfield 89, 3) := by decide +kernel
theorem dX10_findWays_18 : decode cX10_findWays 18 = .ok (.sipush 1024, 3) := by decide +kernel
theorem dX10_findWays_21 : decode cX10_findWays 21 = .ok (.aload_n 0, 1) := by decide +kernel
theorem dX10_findWays_22 : decode cX10_findWays 22 = .ok (.getfield 254, 3) := by decide +kernel
theorem dX10_findWays_25 : decode cX10_findWays 25 = .ok (.imul, 1) := by decide +kernel
theorem dX10_findWays_26 : decode cX10_findWays 26 = .ok (.iload_n 2, 1) := by decide +kernel
theorem dX10_findWays_27 : decode cX10_findWays 27 = .ok (.iadd, 1) := by decide +kernel
theorem dX10_findWays_28 : decode cX10_findWays 28 = .ok (.iconst 0, 1) := by decide +kernel
theorem dX10_findWays_29 : decode cX10_findWays 29 = .ok (.iastore, 1) := by decide +kernel
theorem dX10_findWays_30 : decode cX10_findWays 30 = .ok (.iinc 2 1, 3) := by decide +kernel
theorem dX10_findWays_33 : decode cX10_findWays 33 = .ok (.goto (-24), 3) := by decide +kernel
theorem dX10_findWays_36 : decode cX10_findWays 36 = .ok (.aload_n 0, 1) := by decide +kernel
theorem dX10_findWays_37 : decode cX10_findWays 37 = .ok (.getfield 254, 3) := by decide +kernel
theorem dX10_findWays_40 : decode cX10_findWays 40 = .ok (.iconst 1, 1) := by decide +kernel
theorem dX10_findWays_41 : decode cX10_findWays 41 = .ok (.isub, 1) := by decide +kernel
theorem dX10_findWays_42 : decode cX10_findWays 42 = .ok (.istore_n 2, 1) := by decide +kernel
theorem dX10_findWays_43 : decode cX10_findWays 43 = .ok (.iload_n 2, 1) := by decide +kernel
theorem dX10_findWays_44 : decode cX10_findWays 44 = .ok (.ifCond .lt 132, 3) := by decide +kernel
theorem dX10_findWays_47 : decode cX10_findWays 47 = .ok (.iconst 0, 1) := by decide +kernel
theorem dX10_findWays_48 : decode cX10_findWays 48 = .ok (.istore_n 3, 1) := by decide +kernel
theorem dX10_findWays_49 : decode cX10_findWays 49 = .ok (.iload_n 3, 1) := by decide +kernel
theorem dX10_findWays_50 : decode cX10_findWays 50 = .ok (.iload_n 1, 1) := by decide +kernel
theorem dX10_findWays_51 : decode cX10_findWays 51 = .ok (.if_icmp .ge 119, 3) := by decide +kernel
theorem dX10_findWays_54 : decode cX10_findWays 54 = .ok (.aload_n 0, 1) := by decide +kernel
theorem dX10_findWays_55 : decode cX10_findWays 55 = .ok (.getfield 89, 3) := by decide +kernel
theorem dX10_findWays_58 : decode cX10_findWays 58 = .ok (.sipush 1024, 3) := by decide +kernel
theorem dX10_findWays_61 : decode cX10_findWays 61 = .ok (.iload_n 2, 1) := by decide +kernel
theorem dX10_findWays_62 : decode cX10_findWays 62 = .ok (.iconst 1, 1) := by decide +kernel
theorem dX10_findWays_63 : decode cX10_findWays 63 = .ok (.iadd, 1) := by decide +kernel
theorem dX10_findWays_64 : decode cX10_findWays 64 = .ok (.imul, 1) := by decide +kernel
theorem dX10_findWays_65 : decode cX10_findWays 65 = .ok (.iload_n 3, 1) := by decide +kernel
theorem dX10_findWays_66 : decode cX10_findWays 66 = .ok (.iadd, 1) := by decide +kernel
theorem dX10_findWays_67 : decode cX10_findWays 67 = .ok (.iaload, 1) := by decide +kernel
theorem dX10_findWays_68 : decode cX10_findWays 68 = .ok (.istore 4, 2) := by decide +kernel
theorem dX10_findWays_70 : decode cX10_findWays 70 = .ok (.iconst 0, 1) := by decide +kernel
theorem dX10_findWays_71 : decode cX10_findWays 71 = .ok (.istore 5, 2) := by decide +kernel
theorem dX10_findWays_73 : decode cX10_findWays 73 = .ok (.iload 5, 2) := by decide +kernel
theorem dX10_findWays_75 : decode cX10_findWays 75 = .ok (.aload_n 0, 1) := by decide +kernel
theorem dX10_findWays_76 : decode cX10_findWays 76 = .ok (.getfield 254, 3) := by decide +kernel
theorem dX10_findWays_79 : decode cX10_findWays 79 = .ok (.if_icmp .ge 71, 3) := by decide +kernel
theorem dX10_findWays_82 : decode cX10_findWays 82 = .ok (.iload_n 3, 1) := by decide +kernel
theorem dX10_findWays_83 : decode cX10_findWays 83 = .ok (.iload 5, 2) := by decide +kernel
theorem dX10_findWays_85 : decode cX10_findWays 85 = .ok (.ishr, 1) := by decide +kernel
theorem dX10_findWays_86 : decode cX10_findWays 86 = .ok (.iconst 1, 1) := by decide +kernel
theorem dX10_findWays_87 : decode cX10_findWays 87 = .ok (.iand, 1) := by decide +kernel
theorem dX10_findWays_88 : decode cX10_findWays 88 = .ok (.ifCond .ne 37, 3) := by decide +kernel
theorem dX10_findWays_91 : decode cX10_findWays 91 = .ok (.aload_n 0, 1) := by decide +kernel
theorem dX10_findWays_92 : decode cX10_findWays 92 = .ok (.iload_n 2, 1) := by decide +kernel
theorem dX10_findWays_93 : decode cX10_findWays 93 = .ok (.iload 5, 2) := by decide +kernel
theorem dX10_findWays_95 : decode cX10_findWays 95 = .ok (.invokevirtual 266, 3) := by decide +kernel
theorem dX10_findWays_98 : decode cX10_findWays 98 = .ok (.ifCond .eq 27, 3) := by decide +kernel
theorem dX10_findWays_101 : decode cX10_findWays 101 = .ok (.iconst 1, 1) := by decide +kernel
theorem dX10_findWays_102 : decode cX10_findWays 102 = .ok (.aload_n 0, 1) := by decide +kernel
theorem dX10_findWays_103 : decode cX10_findWays 103 = .ok (.getfield 89, 3) := by decide +kernel
theorem dX10_findWays_106 : decode cX10_findWays 106 = .ok (.sipush 1024, 3) := by decide +kernel
theorem dX10_findWays_109 : decode cX10_findWays 109 = .ok (.iload_n 2, 1) := by decide +kernel
theorem dX10_findWays_110 : decode cX10_findWays 110 = .ok (.iconst 1, 1) := by decide +kernel
theorem dX10_findWays_111 : decode cX10_findWays 111 = .ok (.iadd, 1) := by decide +kernel
theorem dX10_findWays_112 : decode cX10_findWays 112 = .ok (.imul, 1) := by decide +kernel
theorem dX10_findWays_113 : decode cX10_findWays 113 = .ok (.iload_n 3, 1) := by decide +kernel
theorem dX10_findWays_114 : decode cX10_findWays 114 = .ok (.iconst 1, 1) := by decide +kernel
theorem dX10_findWays_115 : decode cX10_findWays 115 = .ok (.iload 5, 2) := by decide +kernel
theorem dX10_findWays_117 : decode cX10_findWays 117 = .ok (.ishl, 1) := by decide +kernel
theorem dX10_findWays_118 : decode cX10_findWays 118 = .ok (.ior, 1) := by decide +kernel
theorem dX10_findWays_119 : decode cX10_findWays 119 = .ok (.iadd, 1) := by decide +kernel
theorem dX10_findWays_120 : decode cX10_findWays 120 = .ok (.iaload, 1) := by decide +kernel
theorem dX10_findWays_121 : decode cX10_findWays 121 = .ok (.iadd, 1) := by decide +kernel
theorem dX10_findWays_122 : decode cX10_findWays 122 = .ok (.goto 4, 3) := by decide +kernel
theorem dX10_findWays_125 : decode cX10_findWays 125 = .ok (.iconst 0, 1) := by decide +kernel
theorem dX10_findWays_126 : decode cX10_findWays 126 = .ok (.istore 6, 2) := by decide +kernel
theorem dX10_findWays_128 : decode cX10_findWays 128 = .ok (.iload 6, 2) := by decide +kernel
theorem dX10_findWays_130 : decode cX10_findWays 130 = .ok (.iload 4, 2) := by decide +kernel
theorem dX10_findWays_132 : decode cX10_findWays 132 = .ok (.if_icmp .le 8, 3) := by decide +kernel
theorem dX10_findWays_135 : decode cX10_findWays 135 = .ok (.iload 6, 2) := by decide +kernel
theorem dX10_findWays_137 : decode cX10_findWays 137 = .ok (.goto 5, 3) := by decide +kernel
theorem dX10_findWays_140 : decode cX10_findWays 140 = .ok (.iload 4, 2) := by decide +kernel
theorem dX10_findWays_142 : decode cX10_findWays 142 = .ok (.istore 4, 2) := by decide +kernel
theorem dX10_findWays_144 : decode cX10_findWays 144 = .ok (.iinc 5 1, 3) := by decide +kernel
theorem dX10_findWays_147 : decode cX10_findWays 147 = .ok (.goto (-74), 3) := by decide +kernel
theorem dX10_findWays_150 : decode cX10_findWays 150 = .ok (.aload_n 0, 1) := by decide +kernel
theorem dX10_findWays_151 : decode cX10_findWays 151 = .ok (.getfield 89, 3) := by decide +kernel
theorem dX10_findWays_154 : decode cX10_findWays 154 = .ok (.sipush 1024, 3) := by decide +kernel
theorem dX10_findWays_157 : decode cX10_findWays 157 = .ok (.iload_n 2, 1) := by decide +kernel
theorem dX10_findWays_158 : decode cX10_findWays 158 = .ok (.imul, 1) := by decide +kernel
theorem dX10_findWays_159 : decode cX10_findWays 159 = .ok (.iload_n 3, 1) := by decide +kernel
theorem dX10_findWays_160 : decode cX10_findWays 160 = .ok (.iadd, 1) := by decide +kernel
theorem dX10_findWays_161 : decode cX10_findWays 161 = .ok (.iload 4, 2) := by decide +kernel
theorem dX10_findWays_163 : decode cX10_findWays 163 = .ok (.iastore, 1) := by decide +kernel
theorem dX10_findWays_164 : decode cX10_findWays 164 = .ok (.iinc 3 1, 3) := by decide +kernel
theorem dX10_findWays_167 : decode cX10_findWays 167 = .ok (.goto (-118), 3) := by decide +kernel
theorem dX10_findWays_170 : decode cX10_findWays 170 = .ok (.iinc 2 (-1), 3) := by decide +kernel
theorem dX10_findWays_173 : decode cX10_findWays 173 = .ok (.goto (-130), 3) := by decide +kernel
theorem dX10_findWays_176 : decode cX10_findWays 176 = .ok (.iconst 0, 1) := by decide +kernel
theorem dX10_findWays_177 : decode cX10_findWays 177 = .ok (.istore_n 2, 1) := by decide +kernel
theorem dX10_findWays_178 : decode cX10_findWays 178 = .ok (.iconst 0, 1) := by decide +kernel
theorem dX10_findWays_179 : decode cX10_findWays 179 = .ok (.istore_n 3, 1) := by decide +kernel
theorem dX10_findWays_180 : decode cX10_findWays 180 = .ok (.iconst 0, 1) := by decide +kernel
theorem dX10_findWays_181 : decode cX10_findWays 181 = .ok (.istore 4, 2) := by decide +kernel
theorem dX10_findWays_183 : decode cX10_findWays 183 = .ok (.iload 4, 2) := by decide +kernel
theorem dX10_findWays_185 : decode cX10_findWays 185 = .ok (.aload_n 0, 1) := by decide +kernel
theorem dX10_findWays_186 : decode cX10_findWays 186 = .ok (.getfield 254, 3) := by decide +kernel
theorem dX10_findWays_189 : decode cX10_findWays 189 = .ok (.if_icmp .ge 180, 3) := by decide +kernel
theorem dX10_findWays_192 : decode cX10_findWays 192 = .ok (.aload_n 0, 1) := by decide +kernel
theorem dX10_findWays_193 : decode cX10_findWays 193 = .ok (.getfield 92, 3) := by decide +kernel
theorem dX10_findWays_196 : decode cX10_findWays 196 = .ok (.iload 4, 2) := by decide +kernel
theorem dX10_findWays_198 : decode cX10_findWays 198 = .ok (.bipush (-4), 2) := by decide +kernel
theorem dX10_findWays_200 : decode cX10_findWays 200 = .ok (.iastore, 1) := by decide +kernel
theorem dX10_findWays_201 : decode cX10_findWays 201 = .ok (.iload_n 3, 1) := by decide +kernel
theorem dX10_findWays_202 : decode cX10_findWays 202 = .ok (.aload_n 0, 1) := by decide +kernel
theorem dX10_findWays_203 : decode cX10_findWays 203 = .ok (.getfield 68, 3) := by decide +kernel
theorem dX10_findWays_206 : decode cX10_findWays 206 = .ok (.iload 4, 2) := by decide +kernel
theorem dX10_findWays_208 : decode cX10_findWays 208 = .ok (.iaload, 1) := by decide +kernel
theorem dX10_findWays_209 : decode cX10_findWays 209 = .ok (.iconst 1, 1) := by decide +kernel
theorem dX10_findWays_210 : decode cX10_findWays 210 = .ok (.if_icmp .le 7, 3) := by decide +kernel
theorem dX10_findWays_213 : decode cX10_findWays 213 = .ok (.iconst 1, 1) := by decide +kernel
theorem dX10_findWays_214 : decode cX10_findWays 214 = .ok (.goto 4, 3) := by decide +kernel
theorem dX10_findWays_217 : decode cX10_findWays 217 = .ok (.iconst 0, 1) := by decide +kernel
theorem dX10_findWays_218 : decode cX10_findWays 218 = .ok (.iadd, 1) := by decide +kernel
theorem dX10_findWays_219 : decode cX10_findWays 219 = .ok (.istore_n 3, 1) := by decide +kernel
theorem dX10_findWays_220 : decode cX10_findWays 220 = .ok (.iconst 0, 1) := by decide +kernel
theorem dX10_findWays_221 : decode cX10_findWays 221 = .ok (.istore 5, 2) := by decide +kernel
theorem dX10_findWays_223 : decode cX10_findWays 223 = .ok (.iload 5, 2) := by decide +kernel
theorem dX10_findWays_225 : decode cX10_findWays 225 = .ok (.aload_n 0, 1) := by decide +kernel
theorem dX10_findWays_226 : decode cX10_findWays 226 = .ok (.getfield 254, 3) := by decide +kernel
theorem dX10_findWays_229 : decode cX10_findWays 229 = .ok (.if_icmp .ge 108, 3) := by decide +kernel
theorem dX10_findWays_232 : decode cX10_findWays 232 = .ok (.aload_n 0, 1) := by decide +kernel
theorem dX10_findWays_233 : decode cX10_findWays 233 = .ok (.getfield 92, 3) := by decide +kernel
theorem dX10_findWays_236 : decode cX10_findWays 236 = .ok (.iload 4, 2) := by decide +kernel
theorem dX10_findWays_238 : decode cX10_findWays 238 = .ok (.iaload, 1) := by decide +kernel
theorem dX10_findWays_239 : decode cX10_findWays 239 = .ok (.ifCond .ge 98, 3) := by decide +kernel
theorem dX10_findWays_242 : decode cX10_findWays 242 = .ok (.iload_n 2, 1) := by decide +kernel
theorem dX10_findWays_243 : decode cX10_findWays 243 = .ok (.iload 5, 2) := by decide +kernel
theorem dX10_findWays_245 : decode cX10_findWays 245 = .ok (.ishr, 1) := by decide +kernel
theorem dX10_findWays_246 : decode cX10_findWays 246 = .ok (.iconst 1, 1) := by decide +kernel
theorem dX10_findWays_247 : decode cX10_findWays 247 = .ok (.iand, 1) := by decide +kernel
theorem dX10_findWays_248 : decode cX10_findWays 248 = .ok (.ifCond .ne 18, 3) := by decide +kernel
theorem dX10_findWays_251 : decode cX10_findWays 251 = .ok (.aload_n 0, 1) := by decide +kernel
theorem dX10_findWays_252 : decode cX10_findWays 252 = .ok (.iload 4, 2) := by decide +kernel
theorem dX10_findWays_254 : decode cX10_findWays 254 = .ok (.iload 5, 2) := by decide +kernel
theorem dX10_findWays_256 : decode cX10_findWays 256 = .ok (.invokevirtual 266, 3) := by decide +kernel
theorem dX10_findWays_259 : decode cX10_findWays 259 = .ok (.ifCond .eq 7, 3) := by decide +kernel
theorem dX10_findWays_262 : decode cX10_findWays 262 = .ok (.iconst 1, 1) := by decide +kernel
theorem dX10_findWays_263 : decode cX10_findWays 263 = .ok (.goto 4, 3) := by decide +kernel
theorem dX10_findWays_266 : decode cX10_findWays 266 = .ok (.iconst 0, 1) := by decide +kernel
theorem dX10_findWays_267 : decode cX10_findWays 267 = .ok (.istore 6, 2) := by decide +kernel
theorem dX10_findWays_269 : decode cX10_findWays 269 = .ok (.aload_n 0, 1) := by decide +kernel
theorem dX10_findWays_270 : decode cX10_findWays 270 = .ok (.getfield 92, 3) := by decide +kernel
theorem dX10_findWays_273 : decode cX10_findWays 273 = .ok (.iload 4, 2) := by decide +kernel
theorem dX10_findWays_275 : decode cX10_findWays 275 = .ok (.iload 6, 2) := by decide +kernel
theorem dX10_findWays_277 : decode cX10_findWays 277 = .ok (.ifCond .eq 46, 3) := by decide +kernel
theorem dX10_findWays_280 : decode cX10_findWays 280 = .ok (.iconst 1, 1) := by decide +kernel
theorem dX10_findWays_281 : decode cX10_findWays 281 = .ok (.aload_n 0, 1) := by decide +kernel
theorem dX10_findWays_282 : decode cX10_findWays 282 = .ok (.getfield 89, 3) := by decide +kernel
theorem dX10_findWays_285 : decode cX10_findWays 285 = .ok (.sipush 1024, 3) := by decide +kernel
theorem dX10_findWays_288 : decode cX10_findWays 288 = .ok (.iload 4, 2) := by decide +kernel
theorem dX10_findWays_290 : decode cX10_findWays 290 = .ok (.iconst 1, 1) := by decide +kernel
theorem dX10_findWays_291 : decode cX10_findWays 291 = .ok (.iadd, 1) := by decide +kernel
theorem dX10_findWays_292 : decode cX10_findWays 292 = .ok (.imul, 1) := by decide +kernel
theorem dX10_findWays_293 : decode cX10_findWays 293 = .ok (.iload_n 2, 1) := by decide +kernel
theorem dX10_findWays_294 : decode cX10_findWays 294 = .ok (.iconst 1, 1) := by decide +kernel
theorem dX10_findWays_295 : decode cX10_findWays 295 = .ok (.iload 5, 2) := by decide +kernel
theorem dX10_findWays_297 : decode cX10_findWays 297 = .ok (.ishl, 1) := by decide +kernel
theorem dX10_findWays_298 : decode cX10_findWays 298 = .ok (.ior, 1) := by decide +kernel
theorem dX10_findWays_299 : decode cX10_findWays 299 = .ok (.iadd, 1) := by decide +kernel
theorem dX10_findWays_300 : decode cX10_findWays 300 = .ok (.iaload, 1) := by decide +kernel
theorem dX10_findWays_301 : decode cX10_findWays 301 = .ok (.iadd, 1) := by decide +kernel
theorem dX10_findWays_302 : decode cX10_findWays 302 = .ok (.aload_n 0, 1) := by decide +kernel
theorem dX10_findWays_303 : decode cX10_findWays 303 = .ok (.getfield 89, 3) := by decide +kernel
theorem dX10_findWays_306 : decode cX10_findWays 306 = .ok (.sipush 1024, 3) := by decide +kernel
theorem dX10_findWays_309 : decode cX10_findWays 309 = .ok (.iload 4, 2) := by decide +kernel
theorem dX10_findWays_311 : decode cX10_findWays 311 = .ok (.imul, 1) := by decide +kernel
theorem dX10_findWays_312 : decode cX10_findWays 312 = .ok (.iload_n 2, 1) := by decide +kernel
theorem dX10_findWays_313 : decode cX10_findWays 313 = .ok (.iadd, 1) := by decide +kernel
theorem dX10_findWays_314 : decode cX10_findWays 314 = .ok (.iaload, 1) := by decide +kernel
theorem dX10_findWays_315 : decode cX10_findWays 315 = .ok (.if_icmp .ne 8, 3) := by decide +kernel
theorem dX10_findWays_318 : decode cX10_findWays 318 = .ok (.iload 5, 2) := by decide +kernel
theorem dX10_findWays_320 : decode cX10_findWays 320 = .ok (.goto 10, 3) := by decide +kernel
theorem dX10_findWays_323 : decode cX10_findWays 323 = .ok (.aload_n 0, 1) := by decide +kernel
theorem dX10_findWays_324 : decode cX10_findWays 324 = .ok (.getfield 92, 3) := by decide +kernel
theorem dX10_findWays_327 : decode cX10_findWays 327 = .ok (.iload 4, 2) := by decide +kernel
theorem dX10_findWays_329 : decode cX10_findWays 329 = .ok (.iaload, 1) := by decide +kernel
theorem dX10_findWays_330 : decode cX10_findWays 330 = .ok (.iastore, 1) := by decide +kernel
theorem dX10_findWays_331 : decode cX10_findWays 331 = .ok (.iinc 5 1, 3) := by decide +kernel
theorem dX10_findWays_334 : decode cX10_findWays 334 = .ok (.goto (-111), 3) := by decide +kernel
theorem dX10_findWays_337 : decode cX10_findWays 337 = .ok (.iload_n 2, 1) := by decide +kernel
theorem dX10_findWays_338 : decode cX10_findWays 338 = .ok (.aload_n 0, 1) := by decide +kernel
theorem dX10_findWays_339 : decode cX10_findWays 339 = .ok (.getfield 92, 3) := by decide +kernel
theorem dX10_findWays_342 : decode cX10_findWays 342 = .ok (.iload 4, 2) := by decide +kernel
theorem dX10_findWays_344 : decode cX10_findWays 344 = .ok (.iaload, 1) := by decide +kernel
theorem dX10_findWays_345 : decode cX10_findWays 345 = .ok (.ifCond .ge 7, 3) := by decide +kernel
theorem dX10_findWays_348 : decode cX10_findWays 348 = .ok (.iconst 0, 1) := by decide +kernel
theorem dX10_findWays_349 : decode cX10_findWays 349 = .ok (.goto 12, 3) := by decide +kernel
theorem dX10_findWays_352 : decode cX10_findWays 352 = .ok (.iconst 1, 1) := by decide +kernel
theorem dX10_findWays_353 : decode cX10_findWays 353 = .ok (.aload_n 0, 1) := by decide +kernel
theorem dX10_findWays_354 : decode cX10_findWays 354 = .ok (.getfield 92, 3) := by decide +kernel
theorem dX10_findWays_357 : decode cX10_findWays 357 = .ok (.iload 4, 2) := by decide +kernel
theorem dX10_findWays_359 : decode cX10_findWays 359 = .ok (.iaload, 1) := by decide +kernel
theorem dX10_findWays_360 : decode cX10_findWays 360 = .ok (.ishl, 1) := by decide +kernel
theorem dX10_findWays_361 : decode cX10_findWays 361 = .ok (.ior, 1) := by decide +kernel
theorem dX10_findWays_362 : decode cX10_findWays 362 = .ok (.istore_n 2, 1) := by decide +kernel
theorem dX10_findWays_363 : decode cX10_findWays 363 = .ok (.iinc 4 1, 3) := by decide +kernel
theorem dX10_findWays_366 : decode cX10_findWays 366 = .ok (.goto (-183), 3) := by decide +kernel
theorem dX10_findWays_369 : decode cX10_findWays 369 = .ok (.iload_n 3, 1) := by decide +kernel
theorem dX10_findWays_370 : decode cX10_findWays 370 = .ok (.aload_n 0, 1) := by decide +kernel
theorem dX10_findWays_371 : decode cX10_findWays 371 = .ok (.getfield 89, 3) := by decide +kernel
theorem dX10_findWays_374 : decode cX10_findWays 374 = .ok (.iconst 0, 1) := by decide +kernel
theorem dX10_findWays_375 : decode cX10_findWays 375 = .ok (.iaload, 1) := by decide +kernel
theorem dX10_findWays_376 : decode cX10_findWays 376 = .ok (.isub, 1) := by decide +kernel
theorem dX10_findWays_377 : decode cX10_findWays 377 = .ok (.ireturn, 1) := by decide +kernel
theorem dX10_ways_0 : decode cX10_ways 0 = .ok (.iload_n 1, 1) := by decide +kernel
theorem dX10_ways_1 : decode cX10_ways 1 = .ok (.invokestatic 170, 3) := by decide +kernel
theorem dX10_ways_4 : decode cX10_ways 4 = .ok (.ifCond .ne 5, 3) := by decide +kernel
theorem dX10_ways_7 : decode cX10_ways 7 = .ok (.iconst (-1), 1) := by decide +kernel
theorem dX10_ways_8 : decode cX10_ways 8 = .ok (.ireturn, 1) := by decide +kernel
theorem dX10_ways_9 : decode cX10_ways 9 = .ok (.aload_n 0, 1) := by decide +kernel
theorem dX10_ways_10 : decode cX10_ways 10 = .ok (.iload_n 1, 1) := by decide +kernel
theorem dX10_ways_11 : decode cX10_ways 11 = .ok (.invokevirtual 260, 3) := by decide +kernel
theorem dX10_ways_14 : decode cX10_ways 14 = .ok (.istore_n 2, 1) := by decide +kernel
theorem dX10_ways_15 : decode cX10_ways 15 = .ok (.iload_n 2, 1) := by decide +kernel
theorem dX10_ways_16 : decode cX10_ways 16 = .ok (.ifCond .ge 7, 3) := by decide +kernel
theorem dX10_ways_19 : decode cX10_ways 19 = .ok (.iload_n 2, 1) := by decide +kernel
theorem dX10_ways_20 : decode cX10_ways 20 = .ok (.goto 7, 3) := by decide +kernel
theorem dX10_ways_23 : decode cX10_ways 23 = .ok (.aload_n 0, 1) := by decide +kernel
theorem dX10_ways_24 : decode cX10_ways 24 = .ok (.invokevirtual 269, 3) := by decide +kernel
theorem dX10_ways_27 : decode cX10_ways 27 = .ok (.ireturn, 1) := by decide +kernel
theorem dX10_nextOf_0 : decode cX10_nextOf 0 = .ok (.iload_n 1, 1) := by decide +kernel
theorem dX10_nextOf_1 : decode cX10_nextOf 1 = .ok (.invokestatic 170, 3) := by decide +kernel
theorem dX10_nextOf_4 : decode cX10_nextOf 4 = .ok (.ifCond .eq 7, 3) := by decide +kernel
theorem dX10_nextOf_7 : decode cX10_nextOf 7 = .ok (.iload_n 2, 1) := by decide +kernel
theorem dX10_nextOf_8 : decode cX10_nextOf 8 = .ok (.ifCond .ge 5, 3) := by decide +kernel
theorem dX10_nextOf_11 : decode cX10_nextOf 11 = .ok (.iconst (-1), 1) := by decide +kernel
theorem dX10_nextOf_12 : decode cX10_nextOf 12 = .ok (.ireturn, 1) := by decide +kernel
theorem dX10_nextOf_13 : decode cX10_nextOf 13 = .ok (.aload_n 0, 1) := by decide +kernel
theorem dX10_nextOf_14 : decode cX10_nextOf 14 = .ok (.iload_n 1, 1) := by decide +kernel
theorem dX10_nextOf_15 : decode cX10_nextOf 15 = .ok (.invokevirtual 260, 3) := by decide +kernel
theorem dX10_nextOf_18 : decode cX10_nextOf 18 = .ok (.istore_n 3, 1) := by decide +kernel
theorem dX10_nextOf_19 : decode cX10_nextOf 19 = .ok (.iload_n 3, 1) := by decide +kernel
theorem dX10_nextOf_20 : decode cX10_nextOf 20 = .ok (.ifCond .ge 5, 3) := by decide +kernel
theorem dX10_nextOf_23 : decode cX10_nextOf 23 = .ok (.iload_n 3, 1) := by decide +kernel
theorem dX10_nextOf_24 : decode cX10_nextOf 24 = .ok (.ireturn, 1) := by decide +kernel
theorem dX10_nextOf_25 : decode cX10_nextOf 25 = .ok (.iload_n 2, 1) := by decide +kernel
theorem dX10_nextOf_26 : decode cX10_nextOf 26 = .ok (.iload_n 3, 1) := by decide +kernel
theorem dX10_nextOf_27 : decode cX10_nextOf 27 = .ok (.if_icmp .lt 5, 3) := by decide +kernel
theorem dX10_nextOf_30 : decode cX10_nextOf 30 = .ok (.iconst (-1), 1) := by decide +kernel
theorem dX10_nextOf_31 : decode cX10_nextOf 31 = .ok (.ireturn, 1) := by decide +kernel
theorem dX10_nextOf_32 : decode cX10_nextOf 32 = .ok (.aload_n 0, 1) := by decide +kernel
theorem dX10_nextOf_33 : decode cX10_nextOf 33 = .ok (.invokevirtual 269, 3) := by decide +kernel
theorem dX10_nextOf_36 : decode cX10_nextOf 36 = .ok (.istore 4, 2) := by decide +kernel
theorem dX10_nextOf_38 : decode cX10_nextOf 38 = .ok (.iload 4, 2) := by decide +kernel
theorem dX10_nextOf_40 : decode cX10_nextOf 40 = .ok (.ifCond .ge 8, 3) := by decide +kernel
theorem dX10_nextOf_43 : decode cX10_nextOf 43 = .ok (.bipush (-4), 2) := by decide +kernel
theorem dX10_nextOf_45 : decode cX10_nextOf 45 = .ok (.goto 9, 3) := by decide +kernel
theorem dX10_nextOf_48 : decode cX10_nextOf 48 = .ok (.aload_n 0, 1) := by decide +kernel
theorem dX10_nextOf_49 : decode cX10_nextOf 49 = .ok (.getfield 92, 3) := by decide +kernel
theorem dX10_nextOf_52 : decode cX10_nextOf 52 = .ok (.iload_n 2, 1) := by decide +kernel
theorem dX10_nextOf_53 : decode cX10_nextOf 53 = .ok (.iaload, 1) := by decide +kernel
theorem dX10_nextOf_54 : decode cX10_nextOf 54 = .ok (.ireturn, 1) := by decide +kernel
theorem dX10_next_0 : decode cX10_next 0 = .ok (.aload_n 0, 1) := by decide +kernel
theorem dX10_next_1 : decode cX10_next 1 = .ok (.iload_n 1, 1) := by decide +kernel
theorem dX10_next_2 : decode cX10_next 2 = .ok (.iload_n 2, 1) := by decide +kernel
theorem dX10_next_3 : decode cX10_next 3 = .ok (.invokevirtual 273, 3) := by decide +kernel
theorem dX10_next_6 : decode cX10_next 6 = .ok (.ireturn, 1) := by decide +kernel
theorem dX10_overhead_0 : decode cX10_overhead 0 = .ok (.aload_n 0, 1) := by decide +kernel
theorem dX10_overhead_1 : decode cX10_overhead 1 = .ok (.iload_n 3, 1) := by decide +kernel
theorem dX10_overhead_2 : decode cX10_overhead 2 = .ok (.invokevirtual 160, 3) := by decide +kernel
theorem dX10_overhead_5 : decode cX10_overhead 5 = .ok (.ifCond .ne 5, 3) := by decide +kernel
theorem dX10_overhead_8 : decode cX10_overhead 8 = .ok (.iconst (-1), 1) := by decide +kernel
theorem dX10_overhead_9 : decode cX10_overhead 9 = .ok (.ireturn, 1) := by decide +kernel
theorem dX10_overhead_10 : decode cX10_overhead 10 = .ok (.aload_n 0, 1) := by decide +kernel
theorem dX10_overhead_11 : decode cX10_overhead 11 = .ok (.iload_n 1, 1) := by decide +kernel
theorem dX10_overhead_12 : decode cX10_overhead 12 = .ok (.iload_n 2, 1) := by decide +kernel
theorem dX10_overhead_13 : decode cX10_overhead 13 = .ok (.invokevirtual 273, 3) := by decide +kernel
theorem dX10_overhead_16 : decode cX10_overhead 16 = .ok (.istore 4, 2) := by decide +kernel
theorem dX10_overhead_18 : decode cX10_overhead 18 = .ok (.iload 4, 2) := by decide +kernel
theorem dX10_overhead_20 : decode cX10_overhead 20 = .ok (.ifCond .ge 6, 3) := by decide +kernel
theorem dX10_overhead_23 : decode cX10_overhead 23 = .ok (.iload 4, 2) := by decide +kernel
theorem dX10_overhead_25 : decode cX10_overhead 25 = .ok (.ireturn, 1) := by decide +kernel
theorem dX10_overhead_26 : decode cX10_overhead 26 = .ok (.aload_n 0, 1) := by decide +kernel
theorem dX10_overhead_27 : decode cX10_overhead 27 = .ok (.getfield 71, 3) := by decide +kernel
theorem dX10_overhead_30 : decode cX10_overhead 30 = .ok (.iload 4, 2) := by decide +kernel
theorem dX10_overhead_32 : decode cX10_overhead 32 = .ok (.iaload, 1) := by decide +kernel
theorem dX10_overhead_33 : decode cX10_overhead 33 = .ok (.aload_n 0, 1) := by decide +kernel
theorem dX10_overhead_34 : decode cX10_overhead 34 = .ok (.getfield 71, 3) := by decide +kernel
theorem dX10_overhead_37 : decode cX10_overhead 37 = .ok (.iload_n 2, 1) := by decide +kernel
theorem dX10_overhead_38 : decode cX10_overhead 38 = .ok (.iaload, 1) := by decide +kernel
theorem dX10_overhead_39 : decode cX10_overhead 39 = .ok (.isub, 1) := by decide +kernel
theorem dX10_overhead_40 : decode cX10_overhead 40 = .ok (.istore 5, 2) := by decide +kernel
theorem dX10_overhead_42 : decode cX10_overhead 42 = .ok (.iconst 0, 1) := by decide +kernel
theorem dX10_overhead_43 : decode cX10_overhead 43 = .ok (.istore 6, 2) := by decide +kernel
theorem dX10_overhead_45 : decode cX10_overhead 45 = .ok (.ldc2_w 276, 3) := by decide +kernel
theorem dX10_overhead_48 : decode cX10_overhead 48 = .ok (.lstore 7, 2) := by decide +kernel
theorem dX10_overhead_50 : decode cX10_overhead 50 = .ok (.iconst 0, 1) := by decide +kernel
theorem dX10_overhead_51 : decode cX10_overhead 51 = .ok (.istore 9, 2) := by decide +kernel
theorem dX10_overhead_53 : decode cX10_overhead 53 = .ok (.iload 9, 2) := by decide +kernel
theorem dX10_overhead_55 : decode cX10_overhead 55 = .ok (.bipush 120, 2) := by decide +kernel
theorem dX10_overhead_57 : decode cX10_overhead 57 = .ok (.if_icmp .gt 121, 3) := by decide +kernel
theorem dX10_overhead_60 : decode cX10_overhead 60 = .ok (.aload_n 0, 1) := by decide +kernel
theorem dX10_overhead_61 : decode cX10_overhead 61 = .ok (.getfield 74, 3) := by decide +kernel
theorem dX10_overhead_64 : decode cX10_overhead 64 = .ok (.iload 4, 2) := by decide +kernel
theorem dX10_overhead_66 : decode cX10_overhead 66 = .ok (.iaload, 1) := by decide +kernel
theorem dX10_overhead_67 : decode cX10_overhead 67 = .ok (.iload 9, 2) := by decide +kernel
theorem dX10_overhead_69 : decode cX10_overhead 69 = .ok (.aload_n 0, 1) := by decide +kernel
theorem dX10_overhead_70 : decode cX10_overhead 70 = .ok (.getfield 74, 3) := by decide +kernel
theorem dX10_overhead_73 : decode cX10_overhead 73 = .ok (.iload 4, 2) := by decide +kernel
theorem dX10_overhead_75 : decode cX10_overhead 75 = .ok (.iaload, 1) := by decide +kernel
theorem dX10_overhead_76 : decode cX10_overhead 76 = .ok (.aload_n 0, 1) := by decide +kernel
theorem dX10_overhead_77 : decode cX10_overhead 77 = .ok (.getfield 74, 3) := by decide +kernel
theorem dX10_overhead_80 : decode cX10_overhead 80 = .ok (.iload_n 2, 1) := by decide +kernel
theorem dX10_overhead_81 : decode cX10_overhead 81 = .ok (.iaload, 1) := by decide +kernel
theorem dX10_overhead_82 : decode cX10_overhead 82 = .ok (.isub, 1) := by decide +kernel
theorem dX10_overhead_83 : decode cX10_overhead 83 = .ok (.imul, 1) := by decide +kernel
theorem dX10_overhead_84 : decode cX10_overhead 84 = .ok (.iload 5, 2) := by decide +kernel
theorem dX10_overhead_86 : decode cX10_overhead 86 = .ok (.idiv, 1) := by decide +kernel
theorem dX10_overhead_87 : decode cX10_overhead 87 = .ok (.iadd, 1) := by decide +kernel
theorem dX10_overhead_88 : decode cX10_overhead 88 = .ok (.aload_n 0, 1) := by decide +kernel
theorem dX10_overhead_89 : decode cX10_overhead 89 = .ok (.getfield 16, 3) := by decide +kernel
theorem dX10_overhead_92 : decode cX10_overhead 92 = .ok (.iload_n 3, 1) := by decide +kernel
theorem dX10_overhead_93 : decode cX10_overhead 93 = .ok (.iaload, 1) := by decide +kernel
theorem dX10_overhead_94 : decode cX10_overhead 94 = .ok (.isub, 1) := by decide +kernel
theorem dX10_overhead_95 : decode cX10_overhead 95 = .ok (.i2l, 1) := by decide +kernel
theorem dX10_overhead_96 : decode cX10_overhead 96 = .ok (.lstore 10, 2) := by decide +kernel
theorem dX10_overhead_98 : decode cX10_overhead 98 = .ok (.aload_n 0, 1) := by decide +kernel
theorem dX10_overhead_99 : decode cX10_overhead 99 = .ok (.getfield 77, 3) := by decide +kernel
theorem dX10_overhead_102 : decode cX10_overhead 102 = .ok (.iload 4, 2) := by decide +kernel
theorem dX10_overhead_104 : decode cX10_overhead 104 = .ok (.iaload, 1) := by decide +kernel
theorem dX10_overhead_105 : decode cX10_overhead 105 = .ok (.iload 9, 2) := by decide +kernel
theorem dX10_overhead_107 : decode cX10_overhead 107 = .ok (.aload_n 0, 1) := by decide +kernel
theorem dX10_overhead_108 : decode cX10_overhead 108 = .ok (.getfield 77, 3) := by decide +kernel
theorem dX10_overhead_111 : decode cX10_overhead 111 = .ok (.iload 4, 2) := by decide +kernel
theorem dX10_overhead_113 : decode cX10_overhead 113 = .ok (.iaload, 1) := by decide +kernel
theorem dX10_overhead_114 : decode cX10_overhead 114 = .ok (.aload_n 0, 1) := by decide +kernel
theorem dX10_overhead_115 : decode cX10_overhead 115 = .ok (.getfield 77, 3) := by decide +kernel
theorem dX10_overhead_118 : decode cX10_overhead 118 = .ok (.iload_n 2, 1) := by decide +kernel
theorem dX10_overhead_119 : decode cX10_overhead 119 = .ok (.iaload, 1) := by decide +kernel
theorem dX10_overhead_120 : decode cX10_overhead 120 = .ok (.isub, 1) := by decide +kernel
theorem dX10_overhead_121 : decode cX10_overhead 121 = .ok (.imul, 1) := by decide +kernel
theorem dX10_overhead_122 : decode cX10_overhead 122 = .ok (.iload 5, 2) := by decide +kernel
theorem dX10_overhead_124 : decode cX10_overhead 124 = .ok (.idiv, 1) := by decide +kernel
theorem dX10_overhead_125 : decode cX10_overhead 125 = .ok (.iadd, 1) := by decide +kernel
theorem dX10_overhead_126 : decode cX10_overhead 126 = .ok (.aload_n 0, 1) := by decide +kernel
theorem dX10_overhead_127 : decode cX10_overhead 127 = .ok (.getfield 19, 3) := by decide +kernel
theorem dX10_overhead_130 : decode cX10_overhead 130 = .ok (.iload_n 3, 1) := by decide +kernel
theorem dX10_overhead_131 : decode cX10_overhead 131 = .ok (.iaload, 1) := by decide +kernel
theorem dX10_overhead_132 : decode cX10_overhead 132 = .ok (.isub, 1) := by decide +kernel
theorem dX10_overhead_133 : decode cX10_overhead 133 = .ok (.i2l, 1) := by decide +kernel
theorem dX10_overhead_134 : decode cX10_overhead 134 = .ok (.lstore 12, 2) := by decide +kernel
theorem dX10_overhead_136 : decode cX10_overhead 136 = .ok (.lload 10, 2) := by decide +kernel
theorem dX10_overhead_138 : decode cX10_overhead 138 = .ok (.lload 10, 2) := by decide +kernel
theorem dX10_overhead_140 : decode cX10_overhead 140 = .ok (.lmul, 1) := by decide +kernel
theorem dX10_overhead_141 : decode cX10_overhead 141 = .ok (.lload 12, 2) := by decide +kernel
theorem dX10_overhead_143 : decode cX10_overhead 143 = .ok (.lload 12, 2) := by decide +kernel
theorem dX10_overhead_145 : decode cX10_overhead 145 = .ok (.lmul, 1) := by decide +kernel
theorem dX10_overhead_146 : decode cX10_overhead 146 = .ok (.ladd, 1) := by decide +kernel
theorem dX10_overhead_147 : decode cX10_overhead 147 = .ok (.lstore 14, 2) := by decide +kernel
theorem dX10_overhead_149 : decode cX10_overhead 149 = .ok (.lload 7, 2) := by decide +kernel
theorem dX10_overhead_151 : decode cX10_overhead 151 = .ok (.lconst 0, 1) := by decide +kernel
theorem dX10_overhead_152 : decode cX10_overhead 152 = .ok (.lcmp, 1) := by decide +kernel
theorem dX10_overhead_153 : decode cX10_overhead 153 = .ok (.ifCond .lt 11, 3) := by decide +kernel
theorem dX10_overhead_156 : decode cX10_overhead 156 = .ok (.lload 14, 2) := by decide +kernel
theorem dX10_overhead_158 : decode cX10_overhead 158 = .ok (.lload 7, 2) := by decide +kernel
theorem dX10_overhead_160 : decode cX10_overhead 160 = .ok (.lcmp, 1) := by decide +kernel
theorem dX10_overhead_161 : decode cX10_overhead 161 = .ok (.ifCond .ge 11, 3) := by decide +kernel
theorem dX10_overhead_164 : decode cX10_overhead 164 = .ok (.lload 14, 2) := by decide +kernel
theorem dX10_overhead_166 : decode cX10_overhead 166 = .ok (.lstore 7, 2) := by decide +kernel
theorem dX10_overhead_168 : decode cX10_overhead 168 = .ok (.iload 9, 2) := by decide +kernel
theorem dX10_overhead_170 : decode cX10_overhead 170 = .ok (.istore 6, 2) := by decide +kernel
theorem dX10_overhead_172 : decode cX10_overhead 172 = .ok (.iinc 9 1, 3) := by decide +kernel
theorem dX10_overhead_175 : decode cX10_overhead 175 = .ok (.goto (-122), 3) := by decide +kernel
theorem dX10_overhead_178 : decode cX10_overhead 178 = .ok (.iload 6, 2) := by decide +kernel
theorem dX10_overhead_180 : decode cX10_overhead 180 = .ok (.ireturn, 1) := by decide +kernel
theorem dX10_watchOf_0 : decode cX10_watchOf 0 = .ok (.iconst 0, 1) := by decide +kernel
theorem dX10_watchOf_1 : decode cX10_watchOf 1 = .ok (.istore_n 3, 1) := by decide +kernel
theorem dX10_watchOf_2 : decode cX10_watchOf 2 = .ok (.iload_n 3, 1) := by decide +kernel
theorem dX10_watchOf_3 : decode cX10_watchOf 3 = .ok (.aload_n 0, 1) := by decide +kernel
theorem dX10_watchOf_4 : decode cX10_watchOf 4 = .ok (.getfield 278, 3) := by decide +kernel
theorem dX10_watchOf_7 : decode cX10_watchOf 7 = .ok (.if_icmp .ge 31, 3) := by decide +kernel
theorem dX10_watchOf_10 : decode cX10_watchOf 10 = .ok (.aload_n 0, 1) := by decide +kernel
theorem dX10_watchOf_11 : decode cX10_watchOf 11 = .ok (.getfield 95, 3) := by decide +kernel
theorem dX10_watchOf_14 : decode cX10_watchOf 14 = .ok (.iload_n 3, 1) := by decide +kernel
theorem dX10_watchOf_15 : decode cX10_watchOf 15 = .ok (.iaload, 1) := by decide +kernel
theorem dX10_watchOf_16 : decode cX10_watchOf 16 = .ok (.iload_n 1, 1) := by decide +kernel
theorem dX10_watchOf_17 : decode cX10_watchOf 17 = .ok (.if_icmp .ne 15, 3) := by decide +kernel
theorem dX10_watchOf_20 : decode cX10_watchOf 20 = .ok (.aload_n 0, 1) := by decide +kernel
theorem dX10_watchOf_21 : decode cX10_watchOf 21 = .ok (.getfield 98, 3) := by decide +kernel
theorem dX10_watchOf_24 : decode cX10_watchOf 24 = .ok (.iload_n 3, 1) := by decide +kernel
theorem dX10_watchOf_25 : decode cX10_watchOf 25 = .ok (.iaload, 1) := by decide +kernel
theorem dX10_watchOf_26 : decode cX10_watchOf 26 = .ok (.iload_n 2, 1) := by decide +kernel
theorem dX10_watchOf_27 : decode cX10_watchOf 27 = .ok (.if_icmp .ne 5, 3) := by decide +kernel
theorem dX10_watchOf_30 : decode cX10_watchOf 30 = .ok (.iload_n 3, 1) := by decide +kernel
theorem dX10_watchOf_31 : decode cX10_watchOf 31 = .ok (.ireturn, 1) := by decide +kernel
theorem dX10_watchOf_32 : decode cX10_watchOf 32 = .ok (.iinc 3 1, 3) := by decide +kernel
theorem dX10_watchOf_35 : decode cX10_watchOf 35 = .ok (.goto (-33), 3) := by decide +kernel
theorem dX10_watchOf_38 : decode cX10_watchOf 38 = .ok (.iconst (-1), 1) := by decide +kernel
theorem dX10_watchOf_39 : decode cX10_watchOf 39 = .ok (.ireturn, 1) := by decide +kernel
theorem dX10_watch_0 : decode cX10_watch 0 = .ok (.aload_n 0, 1) := by decide +kernel
theorem dX10_watch_1 : decode cX10_watch 1 = .ok (.iload_n 1, 1) := by decide +kernel
theorem dX10_watch_2 : decode cX10_watch 2 = .ok (.invokevirtual 160, 3) := by decide +kernel
theorem dX10_watch_5 : decode cX10_watch 5 = .ok (.ifCond .eq 49, 3) := by decide +kernel
theorem dX10_watch_8 : decode cX10_watch 8 = .ok (.iload_n 2, 1) := by decide +kernel
theorem dX10_watch_9 : decode cX10_watch 9 = .ok (.invokestatic 170, 3) := by decide +kernel
theorem dX10_watch_12 : decode cX10_watch 12 = .ok (.ifCond .eq 42, 3) := by decide +kernel
theorem dX10_watch_15 : decode cX10_watch 15 = .ok (.iload_n 3, 1) := by decide +kernel
theorem dX10_watch_16 : decode cX10_watch 16 = .ok (.i2l, 1) := by decide +kernel
theorem dX10_watch_17 : decode cX10_watch 17 = .ok (.lconst 0, 1) := by decide +kernel
theorem dX10_watch_18 : decode cX10_watch 18 = .ok (.ldc2_w 281, 3) := by decide +kernel
theorem dX10_watch_21 : decode cX10_watch 21 = .ok (.invokestatic 143, 3) := by decide +kernel
theorem dX10_watch_24 : decode cX10_watch 24 = .ok (.ifCond .eq 30, 3) := by decide +kernel
theorem dX10_watch_27 : decode cX10_watch 27 = .ok (.iload 4, 2) := by decide +kernel
theorem dX10_watch_29 : decode cX10_watch 29 = .ok (.i2l, 1) := by decide +kernel
theorem dX10_watch_30 : decode cX10_watch 30 = .ok (.lconst 0, 1) := by decide +kernel
theorem dX10_watch_31 : decode cX10_watch 31 = .ok (.iload_n 3, 1) := by decide +kernel
theorem dX10_watch_32 : decode cX10_watch 32 = .ok (.i2l, 1) := by decide +kernel
theorem dX10_watch_33 : decode cX10_watch 33 = .ok (.invokestatic 143, 3) := by decide +kernel
theorem dX10_watch_36 : decode cX10_watch 36 = .ok (.ifCond .eq 18, 3) := by decide +kernel
theorem dX10_watch_39 : decode cX10_watch 39 = .ok (.iload 5, 2) := by decide +kernel
theorem dX10_watch_41 : decode cX10_watch 41 = .ok (.i2l, 1) := by decide +kernel
theorem dX10_watch_42 : decode cX10_watch 42 = .ok (.lconst 0, 1) := by decide +kernel
theorem dX10_watch_43 : decode cX10_watch 43 = .ok (.iload_n 3, 1) := by decide +kernel
theorem dX10_watch_44 : decode cX10_watch 44 = .ok (.iload 4, 2) := by decide +kernel
theorem dX10_watch_46 : decode cX10_watch 46 = .ok (.isub, 1) := by decide +kernel
theorem dX10_watch_47 : decode cX10_watch 47 = .ok (.i2l, 1) := by decide +kernel
theorem dX10_watch_48 : decode cX10_watch 48 = .ok (.invokestatic 143, 3) := by decide +kernel
theorem dX10_watch_51 : decode cX10_watch 51 = .ok (.ifCond .ne 5, 3) := by decide +kernel
theorem dX10_watch_54 : decode cX10_watch 54 = .ok (.iconst (-1), 1) := by decide +kernel
theorem dX10_watch_55 : decode cX10_watch 55 = .ok (.ireturn, 1) := by decide +kernel
theorem dX10_watch_56 : decode cX10_watch 56 = .ok (.aload_n 0, 1) := by decide +kernel
theorem dX10_watch_57 : decode cX10_watch 57 = .ok (.iload_n 1, 1) := by decide +kernel
theorem dX10_watch_58 : decode cX10_watch 58 = .ok (.iload_n 2, 1) := by decide +kernel
theorem dX10_watch_59 : decode cX10_watch 59 = .ok (.invokevirtual 283, 3) := by decide +kernel
theorem dX10_watch_62 : decode cX10_watch 62 = .ok (.ifCond .lt 6, 3) := by decide +kernel
theorem dX10_watch_65 : decode cX10_watch 65 = .ok (.bipush (-2), 2) := by decide +kernel
theorem dX10_watch_67 : decode cX10_watch 67 = .ok (.ireturn, 1) := by decide +kernel
theorem dX10_watch_68 : decode cX10_watch 68 = .ok (.aload_n 0, 1) := by decide +kernel
theorem dX10_watch_69 : decode cX10_watch 69 = .ok (.getfield 278, 3) := by decide +kernel
theorem dX10_watch_72 : decode cX10_watch 72 = .ok (.bipush 60, 2) := by decide +kernel
theorem dX10_watch_74 : decode cX10_watch 74 = .ok (.if_icmp .ne 6, 3) := by decide +kernel
theorem dX10_watch_77 : decode cX10_watch 77 = .ok (.bipush (-3), 2) := by decide +kernel
theorem dX10_watch_79 : decode cX10_watch 79 = .ok (.ireturn, 1) := by decide +kernel
theorem dX10_watch_80 : decode cX10_watch 80 = .ok (.aload_n 0, 1) := by decide +kernel
theorem dX10_watch_81 : decode cX10_watch 81 = .ok (.getfield 95, 3) := by decide +kernel
theorem dX10_watch_84 : decode cX10_watch 84 = .ok (.aload_n 0, 1) := by decide +kernel
theorem dX10_watch_85 : decode cX10_watch 85 = .ok (.getfield 278, 3) := by decide +kernel
theorem dX10_watch_88 : decode cX10_watch 88 = .ok (.iload_n 1, 1) := by decide +kernel
theorem dX10_watch_89 : decode cX10_watch 89 = .ok (.iastore, 1) := by decide +kernel
theorem dX10_watch_90 : decode cX10_watch 90 = .ok (.aload_n 0, 1) := by decide +kernel
theorem dX10_watch_91 : decode cX10_watch 91 = .ok (.getfield 98, 3) := by decide +kernel
theorem dX10_watch_94 : decode cX10_watch 94 = .ok (.aload_n 0, 1) := by decide +kernel
theorem dX10_watch_95 : decode cX10_watch 95 = .ok (.getfield 278, 3) := by decide +kernel
theorem dX10_watch_98 : decode cX10_watch 98 = .ok (.iload_n 2, 1) := by decide +kernel
theorem dX10_watch_99 : decode cX10_watch 99 = .ok (.iastore, 1) := by decide +kernel
theorem dX10_watch_100 : decode cX10_watch 100 = .ok (.aload_n 0, 1) := by decide +kernel
theorem dX10_watch_101 : decode cX10_watch 101 = .ok (.getfield 101, 3) := by decide +kernel
theorem dX10_watch_104 : decode cX10_watch 104 = .ok (.aload_n 0, 1) := by decide +kernel
theorem dX10_watch_105 : decode cX10_watch 105 = .ok (.getfield 278, 3) := by decide +kernel
theorem dX10_watch_108 : decode cX10_watch 108 = .ok (.iload_n 3, 1) := by decide +kernel
theorem dX10_watch_109 : decode cX10_watch 109 = .ok (.iload 4, 2) := by decide +kernel
theorem dX10_watch_111 : decode cX10_watch 111 = .ok (.isub, 1) := by decide +kernel
theorem dX10_watch_112 : decode cX10_watch 112 = .ok (.iastore, 1) := by decide +kernel
theorem dX10_watch_113 : decode cX10_watch 113 = .ok (.aload_n 0, 1) := by decide +kernel
theorem dX10_watch_114 : decode cX10_watch 114 = .ok (.getfield 104, 3) := by decide +kernel
theorem dX10_watch_117 : decode cX10_watch 117 = .ok (.aload_n 0, 1) := by decide +kernel
theorem dX10_watch_118 : decode cX10_watch 118 = .ok (.getfield 278, 3) := by decide +kernel
theorem dX10_watch_121 : decode cX10_watch 121 = .ok (.iload_n 3, 1) := by decide +kernel
theorem dX10_watch_122 : decode cX10_watch 122 = .ok (.iload 4, 2) := by decide +kernel
theorem dX10_watch_124 : decode cX10_watch 124 = .ok (.isub, 1) := by decide +kernel
theorem dX10_watch_125 : decode cX10_watch 125 = .ok (.iload 5, 2) := by decide +kernel
theorem dX10_watch_127 : decode cX10_watch 127 = .ok (.isub, 1) := by decide +kernel
theorem dX10_watch_128 : decode cX10_watch 128 = .ok (.iastore, 1) := by decide +kernel
theorem dX10_watch_129 : decode cX10_watch 129 = .ok (.aload_n 0, 1) := by decide +kernel
theorem dX10_watch_130 : decode cX10_watch 130 = .ok (.dup, 1) := by decide +kernel
theorem dX10_watch_131 : decode cX10_watch 131 = .ok (.getfield 278, 3) := by decide +kernel
theorem dX10_watch_134 : decode cX10_watch 134 = .ok (.iconst 1, 1) := by decide +kernel
theorem dX10_watch_135 : decode cX10_watch 135 = .ok (.iadd, 1) := by decide +kernel
theorem dX10_watch_136 : decode cX10_watch 136 = .ok (.putfield 278, 3) := by decide +kernel
theorem dX10_watch_139 : decode cX10_watch 139 = .ok (.iload_n 3, 1) := by decide +kernel
theorem dX10_watch_140 : decode cX10_watch 140 = .ok (.iload 4, 2) := by decide +kernel
theorem dX10_watch_142 : decode cX10_watch 142 = .ok (.isub, 1) := by decide +kernel
theorem dX10_watch_143 : decode cX10_watch 143 = .ok (.ireturn, 1) := by decide +kernel
theorem dX10_isSeen_0 : decode cX10_isSeen 0 = .ok (.iconst 0, 1) := by decide +kernel
theorem dX10_isSeen_1 : decode cX10_isSeen 1 = .ok (.istore_n 3, 1) := by decide +kernel
theorem dX10_isSeen_2 : decode cX10_isSeen 2 = .ok (.iload_n 3, 1) := by decide +kernel
theorem dX10_isSeen_3 : decode cX10_isSeen 3 = .ok (.aload_n 0, 1) := by decide +kernel
theorem dX10_isSeen_4 : decode cX10_isSeen 4 = .ok (.getfield 177, 3) := by decide +kernel
theorem dX10_isSeen_7 : decode cX10_isSeen 7 = .ok (.if_icmp .ge 35, 3) := by decide +kernel
theorem dX10_isSeen_10 : decode cX10_isSeen 10 = .ok (.aload_n 0, 1) := by decide +kernel
theorem dX10_isSeen_11 : decode cX10_isSeen 11 = .ok (.getfield 34, 3) := by decide +kernel
theorem dX10_isSeen_14 : decode cX10_isSeen 14 = .ok (.iload_n 3, 1) := by decide +kernel
theorem dX10_isSeen_15 : decode cX10_isSeen 15 = .ok (.iaload, 1) := by decide +kernel
theorem dX10_isSeen_16 : decode cX10_isSeen 16 = .ok (.iload_n 2, 1) := by decide +kernel
theorem dX10_isSeen_17 : decode cX10_isSeen 17 = .ok (.if_icmp .ne 19, 3) := by decide +kernel
theorem dX10_isSeen_20 : decode cX10_isSeen 20 = .ok (.iload_n 1, 1) := by decide +kernel
theorem dX10_isSeen_21 : decode cX10_isSeen 21 = .ok (.ifCond .lt 13, 3) := by decide +kernel
theorem dX10_isSeen_24 : decode cX10_isSeen 24 = .ok (.aload_n 0, 1) := by decide +kernel
theorem dX10_isSeen_25 : decode cX10_isSeen 25 = .ok (.getfield 31, 3) := by decide +kernel
theorem dX10_isSeen_28 : decode cX10_isSeen 28 = .ok (.iload_n 3, 1) := by decide +kernel
theorem dX10_isSeen_29 : decode cX10_isSeen 29 = .ok (.iaload, 1) := by decide +kernel
theorem dX10_isSeen_30 : decode cX10_isSeen 30 = .ok (.iload_n 1, 1) := by decide +kernel
theorem dX10_isSeen_31 : decode cX10_isSeen 31 = .ok (.if_icmp .ne 5, 3) := by decide +kernel
theorem dX10_isSeen_34 : decode cX10_isSeen 34 = .ok (.iconst 1, 1) := by decide +kernel
theorem dX10_isSeen_35 : decode cX10_isSeen 35 = .ok (.ireturn, 1) := by decide +kernel
theorem dX10_isSeen_36 : decode cX10_isSeen 36 = .ok (.iinc 3 1, 3) := by decide +kernel
theorem dX10_isSeen_39 : decode cX10_isSeen 39 = .ok (.goto (-37), 3) := by decide +kernel
theorem dX10_isSeen_42 : decode cX10_isSeen 42 = .ok (.iconst 0, 1) := by decide +kernel
theorem dX10_isSeen_43 : decode cX10_isSeen 43 = .ok (.ireturn, 1) := by decide +kernel
theorem dX10_seen_0 : decode cX10_seen 0 = .ok (.aload_n 0, 1) := by decide +kernel
theorem dX10_seen_1 : decode cX10_seen 1 = .ok (.iload_n 1, 1) := by decide +kernel
theorem dX10_seen_2 : decode cX10_seen 2 = .ok (.invokevirtual 160, 3) := by decide +kernel
theorem dX10_seen_5 : decode cX10_seen 5 = .ok (.ifCond .eq 10, 3) := by decide +kernel
theorem dX10_seen_8 : decode cX10_seen 8 = .ok (.iload_n 2, 1) := by decide +kernel
theorem dX10_seen_9 : decode cX10_seen 9 = .ok (.invokestatic 170, 3) := by decide +kernel
theorem dX10_seen_12 : decode cX10_seen 12 = .ok (.ifCond .ne 5, 3) := by decide +kernel
theorem dX10_seen_15 : decode cX10_seen 15 = .ok (.iconst (-1), 1) := by decide +kernel
theorem dX10_seen_16 : decode cX10_seen 16 = .ok (.ireturn, 1) := by decide +kernel
theorem dX10_seen_17 : decode cX10_seen 17 = .ok (.aload_n 0, 1) := by decide +kernel
theorem dX10_seen_18 : decode cX10_seen 18 = .ok (.iload_n 1, 1) := by decide +kernel
theorem dX10_seen_19 : decode cX10_seen 19 = .ok (.iload_n 2, 1) := by decide +kernel
theorem dX10_seen_20 : decode cX10_seen 20 = .ok (.invokevirtual 286, 3) := by decide +kernel
theorem dX10_seen_23 : decode cX10_seen 23 = .ok (.ifCond .eq 5, 3) := by decide +kernel
theorem dX10_seen_26 : decode cX10_seen 26 = .ok (.iconst 1, 1) := by decide +kernel
theorem dX10_seen_27 : decode cX10_seen 27 = .ok (.ireturn, 1) := by decide +kernel
theorem dX10_seen_28 : decode cX10_seen 28 = .ok (.aload_n 0, 1) := by decide +kernel
theorem dX10_seen_29 : decode cX10_seen 29 = .ok (.iload_n 1, 1) := by decide +kernel
theorem dX10_seen_30 : decode cX10_seen 30 = .ok (.iload_n 2, 1) := by decide +kernel
theorem dX10_seen_31 : decode cX10_seen 31 = .ok (.invokevirtual 283, 3) := by decide +kernel
theorem dX10_seen_34 : decode cX10_seen 34 = .ok (.istore_n 3, 1) := by decide +kernel
theorem dX10_seen_35 : decode cX10_seen 35 = .ok (.iload_n 3, 1) := by decide +kernel
theorem dX10_seen_36 : decode cX10_seen 36 = .ok (.ifCond .ge 8, 3) := by decide +kernel
theorem dX10_seen_39 : decode cX10_seen 39 = .ok (.bipush (-4), 2) := by decide +kernel
theorem dX10_seen_41 : decode cX10_seen 41 = .ok (.goto 18, 3) := by decide +kernel
theorem dX10_seen_44 : decode cX10_seen 44 = .ok (.aload_n 0, 1) := by decide +kernel
theorem dX10_seen_45 : decode cX10_seen 45 = .ok (.getfield 104, 3) := by decide +kernel
theorem dX10_seen_48 : decode cX10_seen 48 = .ok (.iload_n 3, 1) := by decide +kernel
theorem dX10_seen_49 : decode cX10_seen 49 = .ok (.iaload, 1) := by decide +kernel
theorem dX10_seen_50 : decode cX10_seen 50 = .ok (.ifCond .le 7, 3) := by decide +kernel
theorem dX10_seen_53 : decode cX10_seen 53 = .ok (.iconst 0, 1) := by decide +kernel
theorem dX10_seen_54 : decode cX10_seen 54 = .ok (.goto 5, 3) := by decide +kernel
theorem dX10_seen_57 : decode cX10_seen 57 = .ok (.bipush (-2), 2) := by decide +kernel
theorem dX10_seen_59 : decode cX10_seen 59 = .ok (.ireturn, 1) := by decide +kernel
theorem dX10_rate_0 : decode cX10_rate 0 = .ok (.iload_n 1, 1) := by decide +kernel
theorem dX10_rate_1 : decode cX10_rate 1 = .ok (.iconst (-1), 1) := by decide +kernel
theorem dX10_rate_2 : decode cX10_rate 2 = .ok (.if_icmp .eq 11, 3) := by decide +kernel
theorem dX10_rate_5 : decode cX10_rate 5 = .ok (.aload_n 0, 1) := by decide +kernel
theorem dX10_rate_6 : decode cX10_rate 6 = .ok (.iload_n 1, 1) := by decide +kernel
theorem dX10_rate_7 : decode cX10_rate 7 = .ok (.invokevirtual 160, 3) := by decide +kernel
theorem dX10_rate_10 : decode cX10_rate 10 = .ok (.ifCond .eq 35, 3) := by decide +kernel
theorem dX10_rate_13 : decode cX10_rate 13 = .ok (.iload_n 2, 1) := by decide +kernel
theorem dX10_rate_14 : decode cX10_rate 14 = .ok (.invokestatic 170, 3) := by decide +kernel
theorem dX10_rate_17 : decode cX10_rate 17 = .ok (.ifCond .eq 28, 3) := by decide +kernel
theorem dX10_rate_20 : decode cX10_rate 20 = .ok (.iload_n 3, 1) := by decide +kernel
theorem dX10_rate_21 : decode cX10_rate 21 = .ok (.invokestatic 170, 3) := by decide +kernel
theorem dX10_rate_24 : decode cX10_rate 24 = .ok (.ifCond .eq 21, 3) := by decide +kernel
theorem dX10_rate_27 : decode cX10_rate 27 = .ok (.iload_n 3, 1) := by decide +kernel
theorem dX10_rate_28 : decode cX10_rate 28 = .ok (.iload_n 2, 1) := by decide +kernel
theorem dX10_rate_29 : decode cX10_rate 29 = .ok (.if_icmp .lt 16, 3) := by decide +kernel
theorem dX10_rate_32 : decode cX10_rate 32 = .ok (.iload 4, 2) := by decide +kernel
theorem dX10_rate_34 : decode cX10_rate 34 = .ok (.i2l, 1) := by decide +kernel
theorem dX10_rate_35 : decode cX10_rate 35 = .ok (.lconst 0, 1) := by decide +kernel
theorem dX10_rate_36 : decode cX10_rate 36 = .ok (.ldc2_w 289, 3) := by decide +kernel
theorem dX10_rate_39 : decode cX10_rate 39 = .ok (.invokestatic 143, 3) := by decide +kernel
theorem dX10_rate_42 : decode cX10_rate 42 = .ok (.ifCond .ne 5, 3) := by decide +kernel
theorem dX10_rate_45 : decode cX10_rate 45 = .ok (.iconst (-1), 1) := by decide +kernel
theorem dX10_rate_46 : decode cX10_rate 46 = .ok (.ireturn, 1) := by decide +kernel
theorem dX10_rate_47 : decode cX10_rate 47 = .ok (.iconst 0, 1) := by decide +kernel
theorem dX10_rate_48 : decode cX10_rate 48 = .ok (.istore 5, 2) := by decide +kernel
theorem dX10_rate_50 : decode cX10_rate 50 = .ok (.iconst 0, 1) := by decide +kernel
theorem dX10_rate_51 : decode cX10_rate 51 = .ok (.istore 6, 2) := by decide +kernel
theorem dX10_rate_53 : decode cX10_rate 53 = .ok (.iconst 0, 1) := by decide +kernel
theorem dX10_rate_54 : decode cX10_rate 54 = .ok (.istore 7, 2) := by decide +kernel
theorem dX10_rate_56 : decode cX10_rate 56 = .ok (.iconst 0, 1) := by decide +kernel
theorem dX10_rate_57 : decode cX10_rate 57 = .ok (.istore 8, 2) := by decide +kernel
theorem dX10_rate_59 : decode cX10_rate 59 = .ok (.iload 8, 2) := by decide +kernel
theorem dX10_rate_61 : decode cX10_rate 61 = .ok (.aload_n 0, 1) := by decide +kernel
theorem dX10_rate_62 : decode cX10_rate 62 = .ok (.getfield 278, 3) := by decide +kernel
theorem dX10_rate_65 : decode cX10_rate 65 = .ok (.if_icmp .ge 98, 3) := by decide +kernel
theorem dX10_rate_68 : decode cX10_rate 68 = .ok (.iload_n 1, 1) := by decide +kernel
theorem dX10_rate_69 : decode cX10_rate 69 = .ok (.ifCond .lt 14, 3) := by decide +kernel
theorem dX10_rate_72 : decode cX10_rate 72 = .ok (.aload_n 0, 1) := by decide +kernel
theorem dX10_rate_73 : decode cX10_rate 73 = .ok (.getfield 95, 3) := by decide +kernel
theorem dX10_rate_76 : decode cX10_rate 76 = .ok (.iload 8, 2) := by decide +kernel
theorem dX10_rate_78 : decode cX10_rate 78 = .ok (.iaload, 1) := by decide +kernel
theorem dX10_rate_79 : decode cX10_rate 79 = .ok (.iload_n 1, 1) := by decide +kernel
theorem dX10_rate_80 : decode cX10_rate 80 = .ok (.if_icmp .ne 77, 3) := by decide +kernel
theorem dX10_rate_83 : decode cX10_rate 83 = .ok (.aload_n 0, 1) := by decide +kernel
theorem dX10_rate_84 : decode cX10_rate 84 = .ok (.getfield 98, 3) := by decide +kernel
theorem dX10_rate_87 : decode cX10_rate 87 = .ok (.iload 8, 2) := by decide +kernel
theorem dX10_rate_89 : decode cX10_rate 89 = .ok (.iaload, 1) := by decide +kernel
theorem dX10_rate_90 : decode cX10_rate 90 = .ok (.i2l, 1) := by decide +kernel
theorem dX10_rate_91 : decode cX10_rate 91 = .ok (.iload_n 2, 1) := by decide +kernel
theorem dX10_rate_92 : decode cX10_rate 92 = .ok (.i2l, 1) := by decide +kernel
theorem dX10_rate_93 : decode cX10_rate 93 = .ok (.iload_n 3, 1) := by decide +kernel
theorem dX10_rate_94 : decode cX10_rate 94 = .ok (.i2l, 1) := by decide +kernel
theorem dX10_rate_95 : decode cX10_rate 95 = .ok (.invokestatic 143, 3) := by decide +kernel
theorem dX10_rate_98 : decode cX10_rate 98 = .ok (.ifCond .eq 59, 3) := by decide +kernel
theorem dX10_rate_101 : decode cX10_rate 101 = .ok (.aload_n 0, 1) := by decide +kernel
theorem dX10_rate_102 : decode cX10_rate 102 = .ok (.getfield 101, 3) := by decide +kernel
theorem dX10_rate_105 : decode cX10_rate 105 = .ok (.iload 8, 2) := by decide +kernel
theorem dX10_rate_107 : decode cX10_rate 107 = .ok (.iaload, 1) := by decide +kernel
theorem dX10_rate_108 : decode cX10_rate 108 = .ok (.ifCond .le 49, 3) := by decide +kernel
theorem dX10_rate_111 : decode cX10_rate 111 = .ok (.iinc 5 1, 3) := by decide +kernel
theorem dX10_rate_114 : decode cX10_rate 114 = .ok (.iload 6, 2) := by decide +kernel
theorem dX10_rate_116 : decode cX10_rate 116 = .ok (.aload_n 0, 1) := by decide +kernel
theorem dX10_rate_117 : decode cX10_rate 117 = .ok (.aload_n 0, 1) := by decide +kernel
theorem dX10_rate_118 : decode cX10_rate 118 = .ok (.getfield 95, 3) := by decide +kernel
theorem dX10_rate_121 : decode cX10_rate 121 = .ok (.iload 8, 2) := by decide +kernel
theorem dX10_rate_123 : decode cX10_rate 123 = .ok (.iaload, 1) := by decide +kernel
theorem dX10_rate_124 : decode cX10_rate 124 = .ok (.aload_n 0, 1) := by decide +kernel
theorem dX10_rate_125 : decode cX10_rate 125 = .ok (.getfield 98, 3) := by decide +kernel
theorem dX10_rate_128 : decode cX10_rate 128 = .ok (.iload 8, 2) := by decide +kernel
theorem dX10_rate_130 : decode cX10_rate 130 = .ok (.iaload, 1) := by decide +kernel
theorem dX10_rate_131 : decode cX10_rate 131 = .ok (.invokevirtual 286, 3) := by decide +kernel
theorem dX10_rate_134 : decode cX10_rate 134 = .ok (.ifCond .eq 7, 3) := by decide +kernel
theorem dX10_rate_137 : decode cX10_rate 137 = .ok (.iconst 1, 1) := by decide +kernel
theorem dX10_rate_138 : decode cX10_rate 138 = .ok (.goto 4, 3) := by decide +kernel
theorem dX10_rate_141 : decode cX10_rate 141 = .ok (.iconst 0, 1) := by decide +kernel
theorem dX10_rate_142 : decode cX10_rate 142 = .ok (.iadd, 1) := by decide +kernel
theorem dX10_rate_143 : decode cX10_rate 143 = .ok (.istore 6, 2) := by decide +kernel
theorem dX10_rate_145 : decode cX10_rate 145 = .ok (.iload 7, 2) := by decide +kernel
theorem dX10_rate_147 : decode cX10_rate 147 = .ok (.aload_n 0, 1) := by decide +kernel
theorem dX10_rate_148 : decode cX10_rate 148 = .ok (.getfield 101, 3) := by decide +kernel
theorem dX10_rate_151 : decode cX10_rate 151 = .ok (.iload 8, 2) := by decide +kernel
theorem dX10_rate_153 : decode cX10_rate 153 = .ok (.iaload, 1) := by decide +kernel
theorem dX10_rate_154 : decode cX10_rate 154 = .ok (.iadd, 1) := by decide +kernel
theorem dX10_rate_155 : decode cX10_rate 155 = .ok (.istore 7, 2) := by decide +kernel
theorem dX10_rate_157 : decode cX10_rate 157 = .ok (.iinc 8 1, 3) := by decide +kernel
theorem dX10_rate_160 : decode cX10_rate 160 = .ok (.goto (-101), 3) := by decide +kernel
theorem dX10_rate_163 : decode cX10_rate 163 = .ok (.iload 4, 2) := by decide +kernel
theorem dX10_rate_165 : decode cX10_rate 165 = .ok (.ifCond .ne 8, 3) := by decide +kernel
theorem dX10_rate_168 : decode cX10_rate 168 = .ok (.iload 5, 2) := by decide +kernel
theorem dX10_rate_170 : decode cX10_rate 170 = .ok (.goto 43, 3) := by decide +kernel
theorem dX10_rate_173 : decode cX10_rate 173 = .ok (.iload 4, 2) := by decide +kernel
theorem dX10_rate_175 : decode cX10_rate 175 = .ok (.iconst 1, 1) := by decide +kernel
theorem dX10_rate_176 : decode cX10_rate 176 = .ok (.if_icmp .ne 8, 3) := by decide +kernel
theorem dX10_rate_179 : decode cX10_rate 179 = .ok (.iload 6, 2) := by decide +kernel
theorem dX10_rate_181 : decode cX10_rate 181 = .ok (.goto 32, 3) := by decide +kernel
theorem dX10_rate_184 : decode cX10_rate 184 = .ok (.iload 4, 2) := by decide +kernel
theorem dX10_rate_186 : decode cX10_rate 186 = .ok (.iconst 2, 1) := by decide +kernel
theorem dX10_rate_187 : decode cX10_rate 187 = .ok (.if_icmp .ne 8, 3) := by decide +kernel
theorem dX10_rate_190 : decode cX10_rate 190 = .ok (.iload 7, 2) := by decide +kernel
theorem dX10_rate_192 : decode cX10_rate 192 = .ok (.goto 21, 3) := by decide +kernel
theorem dX10_rate_195 : decode cX10_rate 195 = .ok (.iload 7, 2) := by decide +kernel
theorem dX10_rate_197 : decode cX10_rate 197 = .ok (.ifCond .ne 7, 3) := by decide +kernel
theorem dX10_rate_200 : decode cX10_rate 200 = .ok (.iconst 0, 1) := by decide +kernel
theorem dX10_rate_201 : decode cX10_rate 201 = .ok (.goto 12, 3) := by decide +kernel
theorem dX10_rate_204 : decode cX10_rate 204 = .ok (.sipush 1000, 3) := by decide +kernel
theorem dX10_rate_207 : decode cX10_rate 207 = .ok (.iload 6, 2) := by decide +kernel
theorem dX10_rate_209 : decode cX10_rate 209 = .ok (.imul, 1) := by decide +kernel
theorem dX10_rate_210 : decode cX10_rate 210 = .ok (.iload 7, 2) := by decide +kernel
theorem dX10_rate_212 : decode cX10_rate 212 = .ok (.idiv, 1) := by decide +kernel
theorem dX10_rate_213 : decode cX10_rate 213 = .ok (.ireturn, 1) := by decide +kernel
theorem dX10_roundOf_0 : decode cX10_roundOf 0 = .ok (.iconst 0, 1) := by decide +kernel
theorem dX10_roundOf_1 : decode cX10_roundOf 1 = .ok (.istore_n 2, 1) := by decide +kernel
theorem dX10_roundOf_2 : decode cX10_roundOf 2 = .ok (.iload_n 2, 1) := by decide +kernel
theorem dX10_roundOf_3 : decode cX10_roundOf 3 = .ok (.iload_n 1, 1) := by decide +kernel
theorem dX10_roundOf_4 : decode cX10_roundOf 4 = .ok (.if_icmp .ge 16, 3) := by decide +kernel
theorem dX10_roundOf_7 : decode cX10_roundOf 7 = .ok (.aload_n 0, 1) := by decide +kernel
theorem dX10_roundOf_8 : decode cX10_roundOf 8 = .ok (.getfield 107, 3) := by decide +kernel
theorem dX10_roundOf_11 : decode cX10_roundOf 11 = .ok (.iload_n 2, 1) := by decide +kernel
theorem dX10_roundOf_12 : decode cX10_roundOf 12 = .ok (.iconst 0, 1) := by decide +kernel
theorem dX10_roundOf_13 : decode cX10_roundOf 13 = .ok (.iastore, 1) := by decide +kernel
theorem dX10_roundOf_14 : decode cX10_roundOf 14 = .ok (.iinc 2 1, 3) := by decide +kernel
theorem dX10_roundOf_17 : decode cX10_roundOf 17 = .ok (.goto (-15), 3) := by decide +kernel
theorem dX10_roundOf_20 : decode cX10_roundOf 20 = .ok (.iconst 0, 1) := by decide +kernel
theorem dX10_roundOf_21 : decode cX10_roundOf 21 = .ok (.istore_n 2, 1) := by decide +kernel
theorem dX10_roundOf_22 : decode cX10_roundOf 22 = .ok (.iload_n 2, 1) := by decide +kernel
theorem dX10_roundOf_23 : decode cX10_roundOf 23 = .ok (.sipush 400, 3) := by decide +kernel
theorem dX10_roundOf_26 : decode cX10_roundOf 26 = .ok (.if_icmp .ge 34, 3) := by decide +kernel
theorem dX10_roundOf_29 : decode cX10_roundOf 29 = .ok (.aload_n 0, 1) := by decide +kernel
theorem dX10_roundOf_30 : decode cX10_roundOf 30 = .ok (.getfield 107, 3) := by decide +kernel
theorem dX10_roundOf_33 : decode cX10_roundOf 33 = .ok (.iload_n 2, 1) := by decide +kernel
theorem dX10_roundOf_34 : decode cX10_roundOf 34 = .ok (.iload_n 1, 1) := by decide +kernel
theorem dX10_roundOf_35 : decode cX10_roundOf 35 = .ok (.irem, 1) := by decide +kernel
theorem dX10_roundOf_36 : decode cX10_roundOf 36 = .ok (.dup2, 1) := by decide +kernel
theorem dX10_roundOf_37 : decode cX10_roundOf 37 = .ok (.iaload, 1) := by decide +kernel
theorem dX10_roundOf_38 : decode cX10_roundOf 38 = .ok (.aload_n 0, 1) := by decide +kernel
theorem dX10_roundOf_39 : decode cX10_roundOf 39 = .ok (.iconst (-1), 1) := by decide +kernel
theorem dX10_roundOf_40 : decode cX10_roundOf 40 = .ok (.iload_n 2, 1) := by decide +kernel
theorem dX10_roundOf_41 : decode cX10_roundOf 41 = .ok (.invokevirtual 286, 3) := by decide +kernel
theorem dX10_roundOf_44 : decode cX10_roundOf 44 = .ok (.ifCond .eq 7, 3) := by decide +kernel
theorem dX10_roundOf_47 : decode cX10_roundOf 47 = .ok (.iconst 1, 1) := by decide +kernel
theorem dX10_roundOf_48 : decode cX10_roundOf 48 = .ok (.goto 4, 3) := by decide +kernel
theorem dX10_roundOf_51 : decode cX10_roundOf 51 = .ok (.iconst 0, 1) := by decide +kernel
theorem dX10_roundOf_52 : decode cX10_roundOf 52 = .ok (.iadd, 1) := by decide +kernel
theorem dX10_roundOf_53 : decode cX10_roundOf 53 = .ok (.iastore, 1) := by decide +kernel
theorem dX10_roundOf_54 : decode cX10_roundOf 54 = .ok (.iinc 2 1, 3) := by decide +kernel
theorem dX10_roundOf_57 : decode cX10_roundOf 57 = .ok (.goto (-35), 3) := by decide +kernel
theorem dX10_roundOf_60 : decode cX10_roundOf 60 = .ok (.iconst 0, 1) := by decide +kernel
theorem dX10_roundOf_61 : decode cX10_roundOf 61 = .ok (.istore_n 2, 1) := by decide +kernel
theorem dX10_roundOf_62 : decode cX10_roundOf 62 = .ok (.iconst 0, 1) := by decide +kernel
theorem dX10_roundOf_63 : decode cX10_roundOf 63 = .ok (.istore_n 3, 1) := by decide +kernel
theorem dX10_roundOf_64 : decode cX10_roundOf 64 = .ok (.iload_n 3, 1) := by decide +kernel
theorem dX10_roundOf_65 : decode cX10_roundOf 65 = .ok (.iload_n 1, 1) := by decide +kernel
theorem dX10_roundOf_66 : decode cX10_roundOf 66 = .ok (.if_icmp .ge 25, 3) := by decide +kernel
theorem dX10_roundOf_69 : decode cX10_roundOf 69 = .ok (.iload_n 2, 1) := by decide +kernel
theorem dX10_roundOf_70 : decode cX10_roundOf 70 = .ok (.aload_n 0, 1) := by decide +kernel
theorem dX10_roundOf_71 : decode cX10_roundOf 71 = .ok (.getfield 107, 3) := by decide +kernel
theorem dX10_roundOf_74 : decode cX10_roundOf 74 = .ok (.iload_n 3, 1) := by decide +kernel
theorem dX10_roundOf_75 : decode cX10_roundOf 75 = .ok (.iaload, 1) := by decide +kernel
theorem dX10_roundOf_76 : decode cX10_roundOf 76 = .ok (.aload_n 0, 1) := by decide +kernel
theorem dX10_roundOf_77 : decode cX10_roundOf 77 = .ok (.getfield 107, 3) := by decide +kernel
theorem dX10_roundOf_80 : decode cX10_roundOf 80 = .ok (.iload_n 3, 1) := by decide +kernel
theorem dX10_roundOf_81 : decode cX10_roundOf 81 = .ok (.iaload, 1) := by decide +kernel
theorem dX10_roundOf_82 : decode cX10_roundOf 82 = .ok (.imul, 1) := by decide +kernel
theorem dX10_roundOf_83 : decode cX10_roundOf 83 = .ok (.iadd, 1) := by decide +kernel
theorem dX10_roundOf_84 : decode cX10_roundOf 84 = .ok (.istore_n 2, 1) := by decide +kernel
theorem dX10_roundOf_85 : decode cX10_roundOf 85 = .ok (.iinc 3 1, 3) := by decide +kernel
theorem dX10_roundOf_88 : decode cX10_roundOf 88 = .ok (.goto (-24), 3) := by decide +kernel
theorem dX10_roundOf_91 : decode cX10_roundOf 91 = .ok (.iload_n 1, 1) := by decide +kernel
theorem dX10_roundOf_92 : decode cX10_roundOf 92 = .ok (.iload_n 2, 1) := by decide +kernel
theorem dX10_roundOf_93 : decode cX10_roundOf 93 = .ok (.imul, 1) := by decide +kernel
theorem dX10_roundOf_94 : decode cX10_roundOf 94 = .ok (.ireturn, 1) := by decide +kernel
theorem dX10_nightsSeen_0 : decode cX10_nightsSeen 0 = .ok (.iconst 0, 1) := by decide +kernel
theorem dX10_nightsSeen_1 : decode cX10_nightsSeen 1 = .ok (.istore_n 1, 1) := by decide +kernel
theorem dX10_nightsSeen_2 : decode cX10_nightsSeen 2 = .ok (.iconst 0, 1) := by decide +kernel
theorem dX10_nightsSeen_3 : decode cX10_nightsSeen 3 = .ok (.istore_n 2, 1) := by decide +kernel
theorem dX10_nightsSeen_4 : decode cX10_nightsSeen 4 = .ok (.iload_n 2, 1) := by decide +kernel
theorem dX10_nightsSeen_5 : decode cX10_nightsSeen 5 = .ok (.sipush 400, 3) := by decide +kernel
theorem dX10_nightsSeen_8 : decode cX10_nightsSeen 8 = .ok (.if_icmp .ge 26, 3) := by decide +kernel
theorem dX10_nightsSeen_11 : decode cX10_nightsSeen 11 = .ok (.iload_n 1, 1) := by decide +kernel
theorem dX10_nightsSeen_12 : decode cX10_nightsSeen 12 = .ok (.aload_n 0, 1) := by decide +kernel
theorem dX10_nightsSeen_13 : decode cX10_nightsSeen 13 = .ok (.iconst (-1), 1) := by decide +kernel
theorem dX10_nightsSeen_14 : decode cX10_nightsSeen 14 = .ok (.iload_n 2, 1) := by decide +kernel
theorem dX10_nightsSeen_15 : decode cX10_nightsSeen 15 = .ok (.invokevirtual 286, 3) := by decide +kernel
theorem dX10_nightsSeen_18 : decode cX10_nightsSeen 18 = .ok (.ifCond .eq 7, 3) := by decide +kernel
theorem dX10_nightsSeen_21 : decode cX10_nightsSeen 21 = .ok (.iconst 1, 1) := by decide +kernel
theorem dX10_nightsSeen_22 : decode cX10_nightsSeen 22 = .ok (.goto 4, 3) := by decide +kernel
theorem dX10_nightsSeen_25 : decode cX10_nightsSeen 25 = .ok (.iconst 0, 1) := by decide +kernel
theorem dX10_nightsSeen_26 : decode cX10_nightsSeen 26 = .ok (.iadd, 1) := by decide +kernel
theorem dX10_nightsSeen_27 : decode cX10_nightsSeen 27 = .ok (.istore_n 1, 1) := by decide +kernel
theorem dX10_nightsSeen_28 : decode cX10_nightsSeen 28 = .ok (.iinc 2 1, 3) := by decide +kernel
theorem dX10_nightsSeen_31 : decode cX10_nightsSeen 31 = .ok (.goto (-27), 3) := by decide +kernel
theorem dX10_nightsSeen_34 : decode cX10_nightsSeen 34 = .ok (.iload_n 1, 1) := by decide +kernel
theorem dX10_nightsSeen_35 : decode cX10_nightsSeen 35 = .ok (.ireturn, 1) := by decide +kernel
theorem dX10_round_0 : decode cX10_round 0 = .ok (.iload_n 1, 1) := by decide +kernel
theorem dX10_round_1 : decode cX10_round 1 = .ok (.i2l, 1) := by decide +kernel
theorem dX10_round_2 : decode cX10_round 2 = .ok (.ldc2_w 291, 3) := by decide +kernel
theorem dX10_round_5 : decode cX10_round 5 = .ok (.ldc2_w 293, 3) := by decide +kernel
theorem dX10_round_8 : decode cX10_round 8 = .ok (.invokestatic 143, 3) := by decide +kernel
theorem dX10_round_11 : decode cX10_round 11 = .ok (.ifCond .eq 11, 3) := by decide +kernel
theorem dX10_round_14 : decode cX10_round 14 = .ok (.aload_n 0, 1) := by decide +kernel
theorem dX10_round_15 : decode cX10_round 15 = .ok (.iload_n 1, 1) := by decide +kernel
theorem dX10_round_16 : decode cX10_round 16 = .ok (.invokevirtual 295, 3) := by decide +kernel
theorem dX10_round_19 : decode cX10_round 19 = .ok (.goto 4, 3) := by decide +kernel
theorem dX10_round_22 : decode cX10_round 22 = .ok (.iconst (-1), 1) := by decide +kernel
theorem dX10_round_23 : decode cX10_round 23 = .ok (.ireturn, 1) := by decide +kernel
theorem dX10_best_0 : decode cX10_best 0 = .ok (.aload_n 0, 1) := by decide +kernel
theorem dX10_best_1 : decode cX10_best 1 = .ok (.invokevirtual 298, 3) := by decide +kernel
theorem dX10_best_4 : decode cX10_best 4 = .ok (.iconst 3, 1) := by decide +kernel
theorem dX10_best_5 : decode cX10_best 5 = .ok (.if_icmp .ge 6, 3) := by decide +kernel
theorem dX10_best_8 : decode cX10_best 8 = .ok (.bipush (-4), 2) := by decide +kernel
theorem dX10_best_10 : decode cX10_best 10 = .ok (.ireturn, 1) := by decide +kernel
theorem dX10_best_11 : decode cX10_best 11 = .ok (.bipush 20, 2) := by decide +kernel
theorem dX10_best_13 : decode cX10_best 13 = .ok (.istore_n 1, 1) := by decide +kernel
theorem dX10_best_14 : decode cX10_best 14 = .ok (.bipush 21, 2) := by decide +kernel
theorem dX10_best_16 : decode cX10_best 16 = .ok (.istore_n 2, 1) := by decide +kernel
theorem dX10_best_17 : decode cX10_best 17 = .ok (.iload_n 2, 1) := by decide +kernel
theorem dX10_best_18 : decode cX10_best 18 = .ok (.bipush 40, 2) := by decide +kernel
theorem dX10_best_20 : decode cX10_best 20 = .ok (.if_icmp .gt 28, 3) := by decide +kernel
theorem dX10_best_23 : decode cX10_best 23 = .ok (.aload_n 0, 1) := by decide +kernel
theorem dX10_best_24 : decode cX10_best 24 = .ok (.iload_n 2, 1) := by decide +kernel
theorem dX10_best_25 : decode cX10_best 25 = .ok (.invokevirtual 295, 3) := by decide +kernel
theorem dX10_best_28 : decode cX10_best 28 = .ok (.aload_n 0, 1) := by decide +kernel
theorem dX10_best_29 : decode cX10_best 29 = .ok (.iload_n 1, 1) := by decide +kernel
theorem dX10_best_30 : decode cX10_best 30 = .ok (.invokevirtual 295, 3) := by decide +kernel
theorem dX10_best_33 : decode cX10_best 33 = .ok (.if_icmp .le 7, 3) := by decide +kernel
theorem dX10_best_36 : decode cX10_best 36 = .ok (.iload_n 2, 1) := by decide +kernel
theorem dX10_best_37 : decode cX10_best 37 = .ok (.goto 4, 3) := by decide +kernel
theorem dX10_best_40 : decode cX10_best 40 = .ok (.iload_n 1, 1) := by decide +kernel
theorem dX10_best_41 : decode cX10_best 41 = .ok (.istore_n 1, 1) := by decide +kernel
theorem dX10_best_42 : decode cX10_best 42 = .ok (.iinc 2 1, 3) := by decide +kernel
theorem dX10_best_45 : decode cX10_best 45 = .ok (.goto (-28), 3) := by decide +kernel
theorem dX10_best_48 : decode cX10_best 48 = .ok (.iload_n 1, 1) := by decide +kernel
theorem dX10_best_49 : decode cX10_best 49 = .ok (.ireturn, 1) := by decide +kernel
theorem dX10_share_0 : decode cX10_share 0 = .ok (.aload_n 0, 1) := by decide +kernel
theorem dX10_share_1 : decode cX10_share 1 = .ok (.iload_n 1, 1) := by decide +kernel
theorem dX10_share_2 : decode cX10_share 2 = .ok (.invokevirtual 194, 3) := by decide +kernel
theorem dX10_share_5 : decode cX10_share 5 = .ok (.ifCond .eq 26, 3) := by decide +kernel
theorem dX10_share_8 : decode cX10_share 8 = .ok (.aload_n 0, 1) := by decide +kernel
theorem dX10_share_9 : decode cX10_share 9 = .ok (.iload_n 2, 1) := by decide +kernel
theorem dX10_share_10 : decode cX10_share 10 = .ok (.invokevirtual 194, 3) := by decide +kernel
theorem dX10_share_13 : decode cX10_share 13 = .ok (.ifCond .eq 18, 3) := by decide +kernel
theorem dX10_share_16 : decode cX10_share 16 = .ok (.aload_n 0, 1) := by decide +kernel
theorem dX10_share_17 : decode cX10_share 17 = .ok (.getfield 31, 3) := by decide +kernel
theorem dX10_share_20 : decode cX10_share 20 = .ok (.iload_n 1, 1) := by decide +kernel
theorem dX10_share_21 : decode cX10_share 21 = .ok (.iaload, 1) := by decide +kernel
theorem dX10_share_22 : decode cX10_share 22 = .ok (.aload_n 0, 1) := by decide +kernel
theorem dX10_share_23 : decode cX10_share 23 = .ok (.getfield 31, 3) := by decide +kernel
theorem dX10_share_26 : decode cX10_share 26 = .ok (.iload_n 2, 1) := by decide +kernel
theorem dX10_share_27 : decode cX10_share 27 = .ok (.iaload, 1) := by decide +kernel
theorem dX10_share_28 : decode cX10_share 28 = .ok (.if_icmp .ne 5, 3) := by decide +kernel
theorem dX10_share_31 : decode cX10_share 31 = .ok (.iconst (-1), 1) := by decide +kernel
theorem dX10_share_32 : decode cX10_share 32 = .ok (.ireturn, 1) := by decide +kernel
theorem dX10_share_33 : decode cX10_share 33 = .ok (.iconst 0, 1) := by decide +kernel
theorem dX10_share_34 : decode cX10_share 34 = .ok (.istore_n 3, 1) := by decide +kernel
theorem dX10_share_35 : decode cX10_share 35 = .ok (.iload_n 3, 1) := by decide +kernel
theorem dX10_share_36 : decode cX10_share 36 = .ok (.aload_n 0, 1) := by decide +kernel
theorem dX10_share_37 : decode cX10_share 37 = .ok (.getfield 301, 3) := by decide +kernel
theorem dX10_share_40 : decode cX10_share 40 = .ok (.if_icmp .ge 52, 3) := by decide +kernel
theorem dX10_share_43 : decode cX10_share 43 = .ok (.aload_n 0, 1) := by decide +kernel
theorem dX10_share_44 : decode cX10_share 44 = .ok (.getfield 110, 3) := by decide +kernel
theorem dX10_share_47 : decode cX10_share 47 = .ok (.iload_n 3, 1) := by decide +kernel
theorem dX10_share_48 : decode cX10_share 48 = .ok (.iaload, 1) := by decide +kernel
theorem dX10_share_49 : decode cX10_share 49 = .ok (.iload_n 1, 1) := by decide +kernel
theorem dX10_share_50 : decode cX10_share 50 = .ok (.if_icmp .ne 13, 3) := by decide +kernel
theorem dX10_share_53 : decode cX10_share 53 = .ok (.aload_n 0, 1) := by decide +kernel
theorem dX10_share_54 : decode cX10_share 54 = .ok (.getfield 113, 3) := by decide +kernel
theorem dX10_share_57 : decode cX10_share 57 = .ok (.iload_n 3, 1) := by decide +kernel
theorem dX10_share_58 : decode cX10_share 58 = .ok (.iaload, 1) := by decide +kernel
theorem dX10_share_59 : decode cX10_share 59 = .ok (.iload_n 2, 1) := by decide +kernel
theorem dX10_share_60 : decode cX10_share 60 = .ok (.if_icmp .eq 23, 3) := by decide +kernel
theorem dX10_share_63 : decode cX10_share 63 = .ok (.aload_n 0, 1) := by decide +kernel
theorem dX10_share_64 : decode cX10_share 64 = .ok (.getfield 110, 3) := by decide +kernel
theorem dX10_share_67 : decode cX10_share 67 = .ok (.iload_n 3, 1) := by decide +kernel
theorem dX10_share_68 : decode cX10_share 68 = .ok (.iaload, 1) := by decide +kernel
theorem dX10_share_69 : decode cX10_share 69 = .ok (.iload_n 2, 1) := by decide +kernel
theorem dX10_share_70 : decode cX10_share 70 = .ok (.if_icmp .ne 16, 3) := by decide +kernel
theorem dX10_share_73 : decode cX10_share 73 = .ok (.aload_n 0, 1) := by decide +kernel
theorem dX10_share_74 : decode cX10_share 74 = .ok (.getfield 113, 3) := by decide +kernel
theorem dX10_share_77 : decode cX10_share 77 = .ok (.iload_n 3, 1) := by decide +kernel
theorem dX10_share_78 : decode cX10_share 78 = .ok (.iaload, 1) := by decide +kernel
theorem dX10_share_79 : decode cX10_share 79 = .ok (.iload_n 1, 1) := by decide +kernel
theorem dX10_share_80 : decode cX10_share 80 = .ok (.if_icmp .ne 6, 3) := by decide +kernel
theorem dX10_share_83 : decode cX10_share 83 = .ok (.bipush (-2), 2) := by decide +kernel
theorem dX10_share_85 : decode cX10_share 85 = .ok (.ireturn, 1) := by decide +kernel
theorem dX10_share_86 : decode cX10_share 86 = .ok (.iinc 3 1, 3) := by decide +kernel
theorem dX10_share_89 : decode cX10_share 89 = .ok (.goto (-54), 3) := by decide +kernel
theorem dX10_share_92 : decode cX10_share 92 = .ok (.aload_n 0, 1) := by decide +kernel
theorem dX10_share_93 : decode cX10_share 93 = .ok (.getfield 301, 3) := by decide +kernel
theorem dX10_share_96 : decode cX10_share 96 = .ok (.bipush 20, 2) := by decide +kernel
theorem dX10_share_98 : decode cX10_share 98 = .ok (.if_icmp .ne 6, 3) := by decide +kernel
theorem dX10_share_101 : decode cX10_share 101 = .ok (.bipush (-3), 2) := by decide +kernel
theorem dX10_share_103 : decode cX10_share 103 = .ok (.ireturn, 1) := by decide +kernel
theorem dX10_share_104 : decode cX10_share 104 = .ok (.aload_n 0, 1) := by decide +kernel
theorem dX10_share_105 : decode cX10_share 105 = .ok (.getfield 110, 3) := by decide +kernel
theorem dX10_share_108 : decode cX10_share 108 = .ok (.aload_n 0, 1) := by decide +kernel
theorem dX10_share_109 : decode cX10_share 109 = .ok (.getfield 301, 3) := by decide +kernel
theorem dX10_share_112 : decode cX10_share 112 = .ok (.iload_n 1, 1) := by decide +kernel
theorem dX10_share_113 : decode cX10_share 113 = .ok (.iastore, 1) := by decide +kernel
theorem dX10_share_114 : decode cX10_share 114 = .ok (.aload_n 0, 1) := by decide +kernel
theorem dX10_share_115 : decode cX10_share 115 = .ok (.getfield 113, 3) := by decide +kernel
theorem dX10_share_118 : decode cX10_share 118 = .ok (.aload_n 0, 1) := by decide +kernel
theorem dX10_share_119 : decode cX10_share 119 = .ok (.getfield 301, 3) := by decide +kernel
theorem dX10_share_122 : decode cX10_share 122 = .ok (.iload_n 2, 1) := by decide +kernel
theorem dX10_share_123 : decode cX10_share 123 = .ok (.iastore, 1) := by decide +kernel
theorem dX10_share_124 : decode cX10_share 124 = .ok (.aload_n 0, 1) := by decide +kernel
theorem dX10_share_125 : decode cX10_share 125 = .ok (.dup, 1) := by decide +kernel
theorem dX10_share_126 : decode cX10_share 126 = .ok (.getfield 301, 3) := by decide +kernel
theorem dX10_share_129 : decode cX10_share 129 = .ok (.iconst 1, 1) := by decide +kernel
theorem dX10_share_130 : decode cX10_share 130 = .ok (.iadd, 1) := by decide +kernel
theorem dX10_share_131 : decode cX10_share 131 = .ok (.putfield 301, 3) := by decide +kernel
theorem dX10_share_134 : decode cX10_share 134 = .ok (.aload_n 0, 1) := by decide +kernel
theorem dX10_share_135 : decode cX10_share 135 = .ok (.getfield 301, 3) := by decide +kernel
theorem dX10_share_138 : decode cX10_share 138 = .ok (.ireturn, 1) := by decide +kernel
theorem dX10_mended_0 : decode cX10_mended 0 = .ok (.aload_n 0, 1) := by decide +kernel
theorem dX10_mended_1 : decode cX10_mended 1 = .ok (.iload_n 1, 1) := by decide +kernel
theorem dX10_mended_2 : decode cX10_mended 2 = .ok (.invokevirtual 160, 3) := by decide +kernel
theorem dX10_mended_5 : decode cX10_mended 5 = .ok (.ifCond .eq 13, 3) := by decide +kernel
theorem dX10_mended_8 : decode cX10_mended 8 = .ok (.iload_n 2, 1) := by decide +kernel
theorem dX10_mended_9 : decode cX10_mended 9 = .ok (.i2l, 1) := by decide +kernel
theorem dX10_mended_10 : decode cX10_mended 10 = .ok (.lconst 0, 1) := by decide +kernel
theorem dX10_mended_11 : decode cX10_mended 11 = .ok (.lconst 1, 1) := by decide +kernel
theorem dX10_mended_12 : decode cX10_mended 12 = .ok (.invokestatic 143, 3) := by decide +kernel
theorem dX10_mended_15 : decode cX10_mended 15 = .ok (.ifCond .ne 7, 3) := by decide +kernel
theorem dX10_mended_18 : decode cX10_mended 18 = .ok (.sipush (-10001), 3) := by decide +kernel
theorem dX10_mended_21 : decode cX10_mended 21 = .ok (.ireturn, 1) := by decide +kernel
theorem dX10_mended_22 : decode cX10_mended 22 = .ok (.aload_n 0, 1) := by decide +kernel
theorem dX10_mended_23 : decode cX10_mended 23 = .ok (.getfield 22, 3) := by decide +kernel
theorem dX10_mended_26 : decode cX10_mended 26 = .ok (.iload_n 1, 1) := by decide +kernel
theorem dX10_mended_27 : decode cX10_mended 27 = .ok (.iaload, 1) := by decide +kernel
theorem dX10_mended_28 : decode cX10_mended 28 = .ok (.istore_n 3, 1) := by decide +kernel
theorem dX10_mended_29 : decode cX10_mended 29 = .ok (.aload_n 0, 1) := by decide +kernel
theorem dX10_mended_30 : decode cX10_mended 30 = .ok (.getfield 25, 3) := by decide +kernel
theorem dX10_mended_33 : decode cX10_mended 33 = .ok (.iload_n 1, 1) := by decide +kernel
theorem dX10_mended_34 : decode cX10_mended 34 = .ok (.iaload, 1) := by decide +kernel
theorem dX10_mended_35 : decode cX10_mended 35 = .ok (.istore 4, 2) := by decide +kernel
theorem dX10_mended_37 : decode cX10_mended 37 = .ok (.iconst 0, 1) := by decide +kernel
theorem dX10_mended_38 : decode cX10_mended 38 = .ok (.istore 5, 2) := by decide +kernel
theorem dX10_mended_40 : decode cX10_mended 40 = .ok (.iload 5, 2) := by decide +kernel
theorem dX10_mended_42 : decode cX10_mended 42 = .ok (.aload_n 0, 1) := by decide +kernel
theorem dX10_mended_43 : decode cX10_mended 43 = .ok (.getfield 301, 3) := by decide +kernel
theorem dX10_mended_46 : decode cX10_mended 46 = .ok (.if_icmp .ge 184, 3) := by decide +kernel
theorem dX10_mended_49 : decode cX10_mended 49 = .ok (.aload_n 0, 1) := by decide +kernel
theorem dX10_mended_50 : decode cX10_mended 50 = .ok (.getfield 31, 3) := by decide +kernel
theorem dX10_mended_53 : decode cX10_mended 53 = .ok (.aload_n 0, 1) := by decide +kernel
theorem dX10_mended_54 : decode cX10_mended 54 = .ok (.getfield 110, 3) := by decide +kernel
theorem dX10_mended_57 : decode cX10_mended 57 = .ok (.iload 5, 2) := by decide +kernel
theorem dX10_mended_59 : decode cX10_mended 59 = .ok (.iaload, 1) := by decide +kernel
theorem dX10_mended_60 : decode cX10_mended 60 = .ok (.iaload, 1) := by decide +kernel
theorem dX10_mended_61 : decode cX10_mended 61 = .ok (.iload_n 1, 1) := by decide +kernel
theorem dX10_mended_62 : decode cX10_mended 62 = .ok (.if_icmp .ne 13, 3) := by decide +kernel
theorem dX10_mended_65 : decode cX10_mended 65 = .ok (.aload_n 0, 1) := by decide +kernel
theorem dX10_mended_66 : decode cX10_mended 66 = .ok (.getfield 110, 3) := by decide +kernel
theorem dX10_mended_69 : decode cX10_mended 69 = .ok (.iload 5, 2) := by decide +kernel
theorem dX10_mended_71 : decode cX10_mended 71 = .ok (.iaload, 1) := by decide +kernel
theorem dX10_mended_72 : decode cX10_mended 72 = .ok (.goto 10, 3) := by decide +kernel
theorem dX10_mended_75 : decode cX10_mended 75 = .ok (.aload_n 0, 1) := by decide +kernel
theorem dX10_mended_76 : decode cX10_mended 76 = .ok (.getfield 113, 3) := by decide +kernel
theorem dX10_mended_79 : decode cX10_mended 79 = .ok (.iload 5, 2) := by decide +kernel
theorem dX10_mended_81 : decode cX10_mended 81 = .ok (.iaload, 1) := by decide +kernel
theorem dX10_mended_82 : decode cX10_mended 82 = .ok (.istore 6, 2) := by decide +kernel
theorem dX10_mended_84 : decode cX10_mended 84 = .ok (.iload 6, 2) := by decide +kernel
theorem dX10_mended_86 : decode cX10_mended 86 = .ok (.aload_n 0, 1) := by decide +kernel
theorem dX10_mended_87 : decode cX10_mended 87 = .ok (.getfield 110, 3) := by decide +kernel
theorem dX10_mended_90 : decode cX10_mended 90 = .ok (.iload 5, 2) := by decide +kernel
theorem dX10_mended_92 : decode cX10_mended 92 = .ok (.iaload, 1) := by decide +kernel
theorem dX10_mended_93 : decode cX10_mended 93 = .ok (.if_icmp .ne 13, 3) := by decide +kernel
theorem dX10_mended_96 : decode cX10_mended 96 = .ok (.aload_n 0, 1) := by decide +kernel
theorem dX10_mended_97 : decode cX10_mended 97 = .ok (.getfield 113, 3) := by decide +kernel
theorem dX10_mended_100 : decode cX10_mended 100 = .ok (.iload 5, 2) := by decide +kernel
theorem dX10_mended_102 : decode cX10_mended 102 = .ok (.iaload, 1) := by decide +kernel
theorem dX10_mended_103 : decode cX10_mended 103 = .ok (.goto 10, 3) := by decide +kernel
theorem dX10_mended_106 : decode cX10_mended 106 = .ok (.aload_n 0, 1) := by decide +kernel
theorem dX10_mended_107 : decode cX10_mended 107 = .ok (.getfield 110, 3) := by decide +kernel
theorem dX10_mended_110 : decode cX10_mended 110 = .ok (.iload 5, 2) := by decide +kernel
theorem dX10_mended_112 : decode cX10_mended 112 = .ok (.iaload, 1) := by decide +kernel
theorem dX10_mended_113 : decode cX10_mended 113 = .ok (.istore 7, 2) := by decide +kernel
theorem dX10_mended_115 : decode cX10_mended 115 = .ok (.aload_n 0, 1) := by decide +kernel
theorem dX10_mended_116 : decode cX10_mended 116 = .ok (.getfield 31, 3) := by decide +kernel
theorem dX10_mended_119 : decode cX10_mended 119 = .ok (.iload 6, 2) := by decide +kernel
theorem dX10_mended_121 : decode cX10_mended 121 = .ok (.iaload, 1) := by decide +kernel
theorem dX10_mended_122 : decode cX10_mended 122 = .ok (.iload_n 1, 1) := by decide +kernel
theorem dX10_mended_123 : decode cX10_mended 123 = .ok (.if_icmp .ne 101, 3) := by decide +kernel
theorem dX10_mended_126 : decode cX10_mended 126 = .ok (.aload_n 0, 1) := by decide +kernel
theorem dX10_mended_127 : decode cX10_mended 127 = .ok (.getfield 37, 3) := by decide +kernel
theorem dX10_mended_130 : decode cX10_mended 130 = .ok (.iload 6, 2) := by decide +kernel
theorem dX10_mended_132 : decode cX10_mended 132 = .ok (.iaload, 1) := by decide +kernel
theorem dX10_mended_133 : decode cX10_mended 133 = .ok (.aload_n 0, 1) := by decide +kernel
theorem dX10_mended_134 : decode cX10_mended 134 = .ok (.getfield 37, 3) := by decide +kernel
theorem dX10_mended_137 : decode cX10_mended 137 = .ok (.iload 7, 2) := by decide +kernel
theorem dX10_mended_139 : decode cX10_mended 139 = .ok (.iaload, 1) := by decide +kernel
theorem dX10_mended_140 : decode cX10_mended 140 = .ok (.isub, 1) := by decide +kernel
theorem dX10_mended_141 : decode cX10_mended 141 = .ok (.istore 8, 2) := by decide +kernel
theorem dX10_mended_143 : decode cX10_mended 143 = .ok (.iload 8, 2) := by decide +kernel
theorem dX10_mended_145 : decode cX10_mended 145 = .ok (.aload_n 0, 1) := by decide +kernel
theorem dX10_mended_146 : decode cX10_mended 146 = .ok (.getfield 22, 3) := by decide +kernel
theorem dX10_mended_149 : decode cX10_mended 149 = .ok (.aload_n 0, 1) := by decide +kernel
theorem dX10_mended_150 : decode cX10_mended 150 = .ok (.getfield 31, 3) := by decide +kernel
theorem dX10_mended_153 : decode cX10_mended 153 = .ok (.iload 7, 2) := by decide +kernel
theorem dX10_mended_155 : decode cX10_mended 155 = .ok (.iaload, 1) := by decide +kernel
theorem dX10_mended_156 : decode cX10_mended 156 = .ok (.iaload, 1) := by decide +kernel
theorem dX10_mended_157 : decode cX10_mended 157 = .ok (.iadd, 1) := by decide +kernel
theorem dX10_mended_158 : decode cX10_mended 158 = .ok (.iload_n 3, 1) := by decide +kernel
theorem dX10_mended_159 : decode cX10_mended 159 = .ok (.if_icmp .le 21, 3) := by decide +kernel
theorem dX10_mended_162 : decode cX10_mended 162 = .ok (.iload 8, 2) := by decide +kernel
theorem dX10_mended_164 : decode cX10_mended 164 = .ok (.aload_n 0, 1) := by decide +kernel
theorem dX10_mended_165 : decode cX10_mended 165 = .ok (.getfield 22, 3) := by decide +kernel
theorem dX10_mended_168 : decode cX10_mended 168 = .ok (.aload_n 0, 1) := by decide +kernel
theorem dX10_mended_169 : decode cX10_mended 169 = .ok (.getfield 31, 3) := by decide +kernel
theorem dX10_mended_172 : decode cX10_mended 172 = .ok (.iload 7, 2) := by decide +kernel
theorem dX10_mended_174 : decode cX10_mended 174 = .ok (.iaload, 1) := by decide +kernel
theorem dX10_mended_175 : decode cX10_mended 175 = .ok (.iaload, 1) := by decide +kernel
theorem dX10_mended_176 : decode cX10_mended 176 = .ok (.iadd, 1) := by decide +kernel
theorem dX10_mended_177 : decode cX10_mended 177 = .ok (.goto 4, 3) := by decide +kernel
theorem dX10_mended_180 : decode cX10_mended 180 = .ok (.iload_n 3, 1) := by decide +kernel
theorem dX10_mended_181 : decode cX10_mended 181 = .ok (.istore_n 3, 1) := by decide +kernel
theorem dX10_mended_182 : decode cX10_mended 182 = .ok (.iload 8, 2) := by decide +kernel
theorem dX10_mended_184 : decode cX10_mended 184 = .ok (.aload_n 0, 1) := by decide +kernel
theorem dX10_mended_185 : decode cX10_mended 185 = .ok (.getfield 25, 3) := by decide +kernel
theorem dX10_mended_188 : decode cX10_mended 188 = .ok (.aload_n 0, 1) := by decide +kernel
theorem dX10_mended_189 : decode cX10_mended 189 = .ok (.getfield 31, 3) := by decide +kernel
theorem dX10_mended_192 : decode cX10_mended 192 = .ok (.iload 7, 2) := by decide +kernel
theorem dX10_mended_194 : decode cX10_mended 194 = .ok (.iaload, 1) := by decide +kernel
theorem dX10_mended_195 : decode cX10_mended 195 = .ok (.iaload, 1) := by decide +kernel
theorem dX10_mended_196 : decode cX10_mended 196 = .ok (.iadd, 1) := by decide +kernel
theorem dX10_mended_197 : decode cX10_mended 197 = .ok (.iload 4, 2) := by decide +kernel
theorem dX10_mended_199 : decode cX10_mended 199 = .ok (.if_icmp .ge 21, 3) := by decide +kernel
theorem dX10_mended_202 : decode cX10_mended 202 = .ok (.iload 8, 2) := by decide +kernel
theorem dX10_mended_204 : decode cX10_mended 204 = .ok (.aload_n 0, 1) := by decide +kernel
theorem dX10_mended_205 : decode cX10_mended 205 = .ok (.getfield 25, 3) := by decide +kernel
theorem dX10_mended_208 : decode cX10_mended 208 = .ok (.aload_n 0, 1) := by decide +kernel
theorem dX10_mended_209 : decode cX10_mended 209 = .ok (.getfield 31, 3) := by decide +kernel
theorem dX10_mended_212 : decode cX10_mended 212 = .ok (.iload 7, 2) := by decide +kernel
theorem dX10_mended_214 : decode cX10_mended 214 = .ok (.iaload, 1) := by decide +kernel
theorem dX10_mended_215 : decode cX10_mended 215 = .ok (.iaload, 1) := by decide +kernel
theorem dX10_mended_216 : decode cX10_mended 216 = .ok (.iadd, 1) := by decide +kernel
theorem dX10_mended_217 : decode cX10_mended 217 = .ok (.goto 5, 3) := by decide +kernel
theorem dX10_mended_220 : decode cX10_mended 220 = .ok (.iload 4, 2) := by decide +kernel
theorem dX10_mended_222 : decode cX10_mended 222 = .ok (.istore 4, 2) := by decide +kernel
theorem dX10_mended_224 : decode cX10_mended 224 = .ok (.iinc 5 1, 3) := by decide +kernel
theorem dX10_mended_227 : decode cX10_mended 227 = .ok (.goto (-187), 3) := by decide +kernel
theorem dX10_mended_230 : decode cX10_mended 230 = .ok (.iload_n 3, 1) := by decide +kernel
theorem dX10_mended_231 : decode cX10_mended 231 = .ok (.iload 4, 2) := by decide +kernel
theorem dX10_mended_233 : decode cX10_mended 233 = .ok (.if_icmp .le 9, 3) := by decide +kernel
theorem dX10_mended_236 : decode cX10_mended 236 = .ok (.sipush (-10004), 3) := by decide +kernel
theorem dX10_mended_239 : decode cX10_mended 239 = .ok (.goto 13, 3) := by decide +kernel
theorem dX10_mended_242 : decode cX10_mended 242 = .ok (.iload_n 2, 1) := by decide +kernel
theorem dX10_mended_243 : decode cX10_mended 243 = .ok (.ifCond .ne 7, 3) := by decide +kernel
theorem dX10_mended_246 : decode cX10_mended 246 = .ok (.iload_n 3, 1) := by decide +kernel
theorem dX10_mended_247 : decode cX10_mended 247 = .ok (.goto 5, 3) := by decide +kernel
theorem dX10_mended_250 : decode cX10_mended 250 = .ok (.iload 4, 2) := by decide +kernel
theorem dX10_mended_252 : decode cX10_mended 252 = .ok (.ireturn, 1) := by decide +kernel
theorem dX10_moved_0 : decode cX10_moved 0 = .ok (.aload_n 0, 1) := by decide +kernel
theorem dX10_moved_1 : decode cX10_moved 1 = .ok (.iload_n 1, 1) := by decide +kernel
theorem dX10_moved_2 : decode cX10_moved 2 = .ok (.invokevirtual 160, 3) := by decide +kernel
theorem dX10_moved_5 : decode cX10_moved 5 = .ok (.ifCond .ne 5, 3) := by decide +kernel
theorem dX10_moved_8 : decode cX10_moved 8 = .ok (.iconst (-1), 1) := by decide +kernel
theorem dX10_moved_9 : decode cX10_moved 9 = .ok (.ireturn, 1) := by decide +kernel
theorem dX10_moved_10 : decode cX10_moved 10 = .ok (.iconst 0, 1) := by decide +kernel
theorem dX10_moved_11 : decode cX10_moved 11 = .ok (.istore_n 2, 1) := by decide +kernel
theorem dX10_moved_12 : decode cX10_moved 12 = .ok (.iconst 0, 1) := by decide +kernel
theorem dX10_moved_13 : decode cX10_moved 13 = .ok (.istore_n 3, 1) := by decide +kernel
theorem dX10_moved_14 : decode cX10_moved 14 = .ok (.iconst 0, 1) := by decide +kernel
theorem dX10_moved_15 : decode cX10_moved 15 = .ok (.istore 4, 2) := by decide +kernel
theorem dX10_moved_17 : decode cX10_moved 17 = .ok (.iload 4, 2) := by decide +kernel
theorem dX10_moved_19 : decode cX10_moved 19 = .ok (.aload_n 0, 1) := by decide +kernel
theorem dX10_moved_20 : decode cX10_moved 20 = .ok (.getfield 301, 3) := by decide +kernel
theorem dX10_moved_23 : decode cX10_moved 23 = .ok (.if_icmp .ge 91, 3) := by decide +kernel
theorem dX10_moved_26 : decode cX10_moved 26 = .ok (.aload_n 0, 1) := by decide +kernel
theorem dX10_moved_27 : decode cX10_moved 27 = .ok (.getfield 110, 3) := by decide +kernel
theorem dX10_moved_30 : decode cX10_moved 30 = .ok (.iload 4, 2) := by decide +kernel
theorem dX10_moved_32 : decode cX10_moved 32 = .ok (.iaload, 1) := by decide +kernel
theorem dX10_moved_33 : decode cX10_moved 33 = .ok (.istore 5, 2) := by decide +kernel
theorem dX10_moved_35 : decode cX10_moved 35 = .ok (.aload_n 0, 1) := by decide +kernel
theorem dX10_moved_36 : decode cX10_moved 36 = .ok (.getfield 113, 3) := by decide +kernel
theorem dX10_moved_39 : decode cX10_moved 39 = .ok (.iload 4, 2) := by decide +kernel
theorem dX10_moved_41 : decode cX10_moved 41 = .ok (.iaload, 1) := by decide +kernel
theorem dX10_moved_42 : decode cX10_moved 42 = .ok (.istore 6, 2) := by decide +kernel
theorem dX10_moved_44 : decode cX10_moved 44 = .ok (.aload_n 0, 1) := by decide +kernel
theorem dX10_moved_45 : decode cX10_moved 45 = .ok (.getfield 31, 3) := by decide +kernel
theorem dX10_moved_48 : decode cX10_moved 48 = .ok (.iload 5, 2) := by decide +kernel
theorem dX10_moved_50 : decode cX10_moved 50 = .ok (.iaload, 1) := by decide +kernel
theorem dX10_moved_51 : decode cX10_moved 51 = .ok (.iload_n 1, 1) := by decide +kernel
theorem dX10_moved_52 : decode cX10_moved 52 = .ok (.if_icmp .eq 14, 3) := by decide +kernel
theorem dX10_moved_55 : decode cX10_moved 55 = .ok (.aload_n 0, 1) := by decide +kernel
theorem dX10_moved_56 : decode cX10_moved 56 = .ok (.getfield 31, 3) := by decide +kernel
theorem dX10_moved_59 : decode cX10_moved 59 = .ok (.iload 6, 2) := by decide +kernel
theorem dX10_moved_61 : decode cX10_moved 61 = .ok (.iaload, 1) := by decide +kernel
theorem dX10_moved_62 : decode cX10_moved 62 = .ok (.iload_n 1, 1) := by decide +kernel
theorem dX10_moved_63 : decode cX10_moved 63 = .ok (.if_icmp .ne 45, 3) := by decide +kernel
theorem dX10_moved_66 : decode cX10_moved 66 = .ok (.aload_n 0, 1) := by decide +kernel
theorem dX10_moved_67 : decode cX10_moved 67 = .ok (.getfield 28, 3) := by decide +kernel
theorem dX10_moved_70 : decode cX10_moved 70 = .ok (.iload 5, 2) := by decide +kernel
theorem dX10_moved_72 : decode cX10_moved 72 = .ok (.iaload, 1) := by decide +kernel
theorem dX10_moved_73 : decode cX10_moved 73 = .ok (.ifCond .le 35, 3) := by decide +kernel
theorem dX10_moved_76 : decode cX10_moved 76 = .ok (.aload_n 0, 1) := by decide +kernel
theorem dX10_moved_77 : decode cX10_moved 77 = .ok (.getfield 28, 3) := by decide +kernel
theorem dX10_moved_80 : decode cX10_moved 80 = .ok (.iload 6, 2) := by decide +kernel
theorem dX10_moved_82 : decode cX10_moved 82 = .ok (.iaload, 1) := by decide +kernel
theorem dX10_moved_83 : decode cX10_moved 83 = .ok (.ifCond .le 25, 3) := by decide +kernel
theorem dX10_moved_86 : decode cX10_moved 86 = .ok (.iinc 2 1, 3) := by decide +kernel
theorem dX10_moved_89 : decode cX10_moved 89 = .ok (.iload_n 3, 1) := by decide +kernel
theorem dX10_moved_90 : decode cX10_moved 90 = .ok (.aload_n 0, 1) := by decide +kernel
theorem dX10_moved_91 : decode cX10_moved 91 = .ok (.iload 5, 2) := by decide +kernel
theorem dX10_moved_93 : decode cX10_moved 93 = .ok (.iload 6, 2) := by decide +kernel
theorem dX10_moved_95 : decode cX10_moved 95 = .ok (.invokevirtual 223, 3) := by decide +kernel
theorem dX10_moved_98 : decode cX10_moved 98 = .ok (.ifCond .eq 7, 3) := by decide +kernel
theorem dX10_moved_101 : decode cX10_moved 101 = .ok (.iconst 0, 1) := by decide +kernel
theorem dX10_moved_102 : decode cX10_moved 102 = .ok (.goto 4, 3) := by decide +kernel
theorem dX10_moved_105 : decode cX10_moved 105 = .ok (.iconst 1, 1) := by decide +kernel
theorem dX10_moved_106 : decode cX10_moved 106 = .ok (.iadd, 1) := by decide +kernel
theorem dX10_moved_107 : decode cX10_moved 107 = .ok (.istore_n 3, 1) := by decide +kernel
theorem dX10_moved_108 : decode cX10_moved 108 = .ok (.iinc 4 1, 3) := by decide +kernel
theorem dX10_moved_111 : decode cX10_moved 111 = .ok (.goto (-94), 3) := by decide +kernel
theorem dX10_moved_114 : decode cX10_moved 114 = .ok (.iload_n 2, 1) := by decide +kernel
theorem dX10_moved_115 : decode cX10_moved 115 = .ok (.iconst 2, 1) := by decide +kernel
theorem dX10_moved_116 : decode cX10_moved 116 = .ok (.if_icmp .ge 8, 3) := by decide +kernel
theorem dX10_moved_119 : decode cX10_moved 119 = .ok (.bipush (-4), 2) := by decide +kernel
theorem dX10_moved_121 : decode cX10_moved 121 = .ok (.goto 15, 3) := by decide +kernel
theorem dX10_moved_124 : decode cX10_moved 124 = .ok (.iconst 2, 1) := by decide +kernel
theorem dX10_moved_125 : decode cX10_moved 125 = .ok (.iload_n 3, 1) := by decide +kernel
theorem dX10_moved_126 : decode cX10_moved 126 = .ok (.imul, 1) := by decide +kernel
theorem dX10_moved_127 : decode cX10_moved 127 = .ok (.iload_n 2, 1) := by decide +kernel
theorem dX10_moved_128 : decode cX10_moved 128 = .ok (.if_icmp .le 7, 3) := by decide +kernel
theorem dX10_moved_131 : decode cX10_moved 131 = .ok (.iconst 1, 1) := by decide +kernel
theorem dX10_moved_132 : decode cX10_moved 132 = .ok (.goto 4, 3) := by decide +kernel
theorem dX10_moved_135 : decode cX10_moved 135 = .ok (.iconst 0, 1) := by decide +kernel
theorem dX10_moved_136 : decode cX10_moved 136 = .ok (.ireturn, 1) := by decide +kernel
theorem dX10_count_0 : decode cX10_count 0 = .ok (.iload_n 1, 1) := by decide +kernel
theorem dX10_count_1 : decode cX10_count 1 = .ok (.ifCond .ne 10, 3) := by decide +kernel
theorem dX10_count_4 : decode cX10_count 4 = .ok (.aload_n 0, 1) := by decide +kernel
theorem dX10_count_5 : decode cX10_count 5 = .ok (.getfield 155, 3) := by decide +kernel
theorem dX10_count_8 : decode cX10_count 8 = .ok (.goto 52, 3) := by decide +kernel
theorem dX10_count_11 : decode cX10_count 11 = .ok (.iload_n 1, 1) := by decide +kernel
theorem dX10_count_12 : decode cX10_count 12 = .ok (.iconst 1, 1) := by decide +kernel
theorem dX10_count_13 : decode cX10_count 13 = .ok (.if_icmp .ne 10, 3) := by decide +kernel
theorem dX10_count_16 : decode cX10_count 16 = .ok (.aload_n 0, 1) := by decide +kernel
theorem dX10_count_17 : decode cX10_count 17 = .ok (.getfield 177, 3) := by decide +kernel
theorem dX10_count_20 : decode cX10_count 20 = .ok (.goto 40, 3) := by decide +kernel
theorem dX10_count_23 : decode cX10_count 23 = .ok (.iload_n 1, 1) := by decide +kernel
theorem dX10_count_24 : decode cX10_count 24 = .ok (.iconst 2, 1) := by decide +kernel
theorem dX10_count_25 : decode cX10_count 25 = .ok (.if_icmp .ne 10, 3) := by decide +kernel
theorem dX10_count_28 : decode cX10_count 28 = .ok (.aload_n 0, 1) := by decide +kernel
theorem dX10_count_29 : decode cX10_count 29 = .ok (.getfield 278, 3) := by decide +kernel
theorem dX10_count_32 : decode cX10_count 32 = .ok (.goto 28, 3) := by decide +kernel
theorem dX10_count_35 : decode cX10_count 35 = .ok (.iload_n 1, 1) := by decide +kernel
theorem dX10_count_36 : decode cX10_count 36 = .ok (.iconst 3, 1) := by decide +kernel
theorem dX10_count_37 : decode cX10_count 37 = .ok (.if_icmp .ne 10, 3) := by decide +kernel
theorem dX10_count_40 : decode cX10_count 40 = .ok (.aload_n 0, 1) := by decide +kernel
theorem dX10_count_41 : decode cX10_count 41 = .ok (.getfield 301, 3) := by decide +kernel
theorem dX10_count_44 : decode cX10_count 44 = .ok (.goto 16, 3) := by decide +kernel
theorem dX10_count_47 : decode cX10_count 47 = .ok (.iload_n 1, 1) := by decide +kernel
theorem dX10_count_48 : decode cX10_count 48 = .ok (.iconst 4, 1) := by decide +kernel
theorem dX10_count_49 : decode cX10_count 49 = .ok (.if_icmp .ne 10, 3) := by decide +kernel
theorem dX10_count_52 : decode cX10_count 52 = .ok (.aload_n 0, 1) := by decide +kernel
theorem dX10_count_53 : decode cX10_count 53 = .ok (.invokevirtual 298, 3) := by decide +kernel
theorem dX10_count_56 : decode cX10_count 56 = .ok (.goto 4, 3) := by decide +kernel
theorem dX10_count_59 : decode cX10_count 59 = .ok (.iconst (-1), 1) := by decide +kernel
theorem dX10_count_60 : decode cX10_count 60 = .ok (.ireturn, 1) := by decide +kernel
theorem dX10_isSheet_0 : decode cX10_isSheet 0 = .ok (.iload_n 0, 1) := by decide +kernel
theorem dX10_isSheet_1 : decode cX10_isSheet 1 = .ok (.i2l, 1) := by decide +kernel
theorem dX10_isSheet_2 : decode cX10_isSheet 2 = .ok (.lconst 0, 1) := by decide +kernel
theorem dX10_isSheet_3 : decode cX10_isSheet 3 = .ok (.ldc2_w 289, 3) := by decide +kernel
theorem dX10_isSheet_6 : decode cX10_isSheet 6 = .ok (.invokestatic 143, 3) := by decide +kernel
theorem dX10_isSheet_9 : decode cX10_isSheet 9 = .ok (.ifCond .eq 19, 3) := by decide +kernel
theorem dX10_isSheet_12 : decode cX10_isSheet 12 = .ok (.iload_n 1, 1) := by decide +kernel
theorem dX10_isSheet_13 : decode cX10_isSheet 13 = .ok (.i2l, 1) := by decide +kernel
theorem dX10_isSheet_14 : decode cX10_isSheet 14 = .ok (.lconst 0, 1) := by decide +kernel
theorem dX10_isSheet_15 : decode cX10_isSheet 15 = .ok (.ldc2_w 141, 3) := by decide +kernel
theorem dX10_isSheet_18 : decode cX10_isSheet 18 = .ok (.invokestatic 143, 3) := by decide +kernel
theorem dX10_isSheet_21 : decode cX10_isSheet 21 = .ok (.ifCond .eq 7, 3) := by decide +kernel
theorem dX10_isSheet_24 : decode cX10_isSheet 24 = .ok (.iconst 1, 1) := by decide +kernel
theorem dX10_isSheet_25 : decode cX10_isSheet 25 = .ok (.goto 4, 3) := by decide +kernel
theorem dX10_isSheet_28 : decode cX10_isSheet 28 = .ok (.iconst 0, 1) := by decide +kernel
theorem dX10_isSheet_29 : decode cX10_isSheet 29 = .ok (.ireturn, 1) := by decide +kernel
theorem dX10_sheet_0 : decode cX10_sheet 0 = .ok (.iload_n 1, 1) := by decide +kernel
theorem dX10_sheet_1 : decode cX10_sheet 1 = .ok (.iload_n 2, 1) := by decide +kernel
theorem dX10_sheet_2 : decode cX10_sheet 2 = .ok (.invokestatic 304, 3) := by decide +kernel
theorem dX10_sheet_5 : decode cX10_sheet 5 = .ok (.ifCond .eq 9, 3) := by decide +kernel
theorem dX10_sheet_8 : decode cX10_sheet 8 = .ok (.iload_n 3, 1) := by decide +kernel
theorem dX10_sheet_9 : decode cX10_sheet 9 = .ok (.bipush 36, 2) := by decide +kernel
theorem dX10_sheet_11 : decode cX10_sheet 11 = .ok (.if_icmp .le 5, 3) := by decide +kernel
theorem dX10_sheet_14 : decode cX10_sheet 14 = .ok (.iconst (-1), 1) := by decide +kernel
theorem dX10_sheet_15 : decode cX10_sheet 15 = .ok (.ireturn, 1) := by decide +kernel
theorem dX10_sheet_16 : decode cX10_sheet 16 = .ok (.iload_n 3, 1) := by decide +kernel
theorem dX10_sheet_17 : decode cX10_sheet 17 = .ok (.ifCond .ge 6, 3) := by decide +kernel
theorem dX10_sheet_20 : decode cX10_sheet 20 = .ok (.bipush (-14), 2) := by decide +kernel
theorem dX10_sheet_22 : decode cX10_sheet 22 = .ok (.ireturn, 1) := by decide +kernel
theorem dX10_sheet_23 : decode cX10_sheet 23 = .ok (.aload_n 0, 1) := by decide +kernel
theorem dX10_sheet_24 : decode cX10_sheet 24 = .ok (.getfield 116, 3) := by decide +kernel
theorem dX10_sheet_27 : decode cX10_sheet 27 = .ok (.iload_n 1, 1) := by decide +kernel
theorem dX10_sheet_28 : decode cX10_sheet 28 = .ok (.iload_n 2, 1) := by decide +kernel
theorem dX10_sheet_29 : decode cX10_sheet 29 = .ok (.iastore, 1) := by decide +kernel
theorem dX10_sheet_30 : decode cX10_sheet 30 = .ok (.aload_n 0, 1) := by decide +kernel
theorem dX10_sheet_31 : decode cX10_sheet 31 = .ok (.getfield 119, 3) := by decide +kernel
theorem dX10_sheet_34 : decode cX10_sheet 34 = .ok (.iload_n 1, 1) := by decide +kernel
theorem dX10_sheet_35 : decode cX10_sheet 35 = .ok (.iload_n 3, 1) := by decide +kernel
theorem dX10_sheet_36 : decode cX10_sheet 36 = .ok (.iastore, 1) := by decide +kernel
theorem dX10_sheet_37 : decode cX10_sheet 37 = .ok (.iconst 0, 1) := by decide +kernel
theorem dX10_sheet_38 : decode cX10_sheet 38 = .ok (.istore 4, 2) := by decide +kernel
theorem dX10_sheet_40 : decode cX10_sheet 40 = .ok (.iload 4, 2) := by decide +kernel
theorem dX10_sheet_42 : decode cX10_sheet 42 = .ok (.bipush 36, 2) := by decide +kernel
theorem dX10_sheet_44 : decode cX10_sheet 44 = .ok (.if_icmp .ge 22, 3) := by decide +kernel
theorem dX10_sheet_47 : decode cX10_sheet 47 = .ok (.aload_n 0, 1) := by decide +kernel
theorem dX10_sheet_48 : decode cX10_sheet 48 = .ok (.getfield 122, 3) := by decide +kernel
theorem dX10_sheet_51 : decode cX10_sheet 51 = .ok (.bipush 36, 2) := by decide +kernel
theorem dX10_sheet_53 : decode cX10_sheet 53 = .ok (.iload_n 1, 1) := by decide +kernel
theorem dX10_sheet_54 : decode cX10_sheet 54 = .ok (.imul, 1) := by decide +kernel
theorem dX10_sheet_55 : decode cX10_sheet 55 = .ok (.iload 4, 2) := by decide +kernel
theorem dX10_sheet_57 : decode cX10_sheet 57 = .ok (.iadd, 1) := by decide +kernel
theorem dX10_sheet_58 : decode cX10_sheet 58 = .ok (.iconst 0, 1) := by decide +kernel
theorem dX10_sheet_59 : decode cX10_sheet 59 = .ok (.iastore, 1) := by decide +kernel
theorem dX10_sheet_60 : decode cX10_sheet 60 = .ok (.iinc 4 1, 3) := by decide +kernel
theorem dX10_sheet_63 : decode cX10_sheet 63 = .ok (.goto (-23), 3) := by decide +kernel
theorem dX10_sheet_66 : decode cX10_sheet 66 = .ok (.iload_n 3, 1) := by decide +kernel
theorem dX10_sheet_67 : decode cX10_sheet 67 = .ok (.ireturn, 1) := by decide +kernel
theorem dX10_drop_0 : decode cX10_drop 0 = .ok (.iload_n 1, 1) := by decide +kernel
theorem dX10_drop_1 : decode cX10_drop 1 = .ok (.i2l, 1) := by decide +kernel
theorem dX10_drop_2 : decode cX10_drop 2 = .ok (.lconst 0, 1) := by decide +kernel
theorem dX10_drop_3 : decode cX10_drop 3 = .ok (.ldc2_w 289, 3) := by decide +kernel
theorem dX10_drop_6 : decode cX10_drop 6 = .ok (.invokestatic 143, 3) := by decide +kernel
theorem dX10_drop_9 : decode cX10_drop 9 = .ok (.ifCond .ne 5, 3) := by decide +kernel
theorem dX10_drop_12 : decode cX10_drop 12 = .ok (.iconst (-1), 1) := by decide +kernel
theorem dX10_drop_13 : decode cX10_drop 13 = .ok (.ireturn, 1) := by decide +kernel
theorem dX10_drop_14 : decode cX10_drop 14 = .ok (.aload_n 0, 1) := by decide +kernel
theorem dX10_drop_15 : decode cX10_drop 15 = .ok (.getfield 116, 3) := by decide +kernel
theorem dX10_drop_18 : decode cX10_drop 18 = .ok (.iload_n 1, 1) := by decide +kernel
theorem dX10_drop_19 : decode cX10_drop 19 = .ok (.iaload, 1) := by decide +kernel
theorem dX10_drop_20 : decode cX10_drop 20 = .ok (.ifCond .ge 6, 3) := by decide +kernel
theorem dX10_drop_23 : decode cX10_drop 23 = .ok (.bipush (-11), 2) := by decide +kernel
theorem dX10_drop_25 : decode cX10_drop 25 = .ok (.ireturn, 1) := by decide +kernel
theorem dX10_drop_26 : decode cX10_drop 26 = .ok (.aload_n 0, 1) := by decide +kernel
theorem dX10_drop_27 : decode cX10_drop 27 = .ok (.getfield 116, 3) := by decide +kernel
theorem dX10_drop_30 : decode cX10_drop 30 = .ok (.iload_n 1, 1) := by decide +kernel
theorem dX10_drop_31 : decode cX10_drop 31 = .ok (.iconst (-1), 1) := by decide +kernel
theorem dX10_drop_32 : decode cX10_drop 32 = .ok (.iastore, 1) := by decide +kernel
theorem dX10_drop_33 : decode cX10_drop 33 = .ok (.aload_n 0, 1) := by decide +kernel
theorem dX10_drop_34 : decode cX10_drop 34 = .ok (.getfield 119, 3) := by decide +kernel
theorem dX10_drop_37 : decode cX10_drop 37 = .ok (.iload_n 1, 1) := by decide +kernel
theorem dX10_drop_38 : decode cX10_drop 38 = .ok (.iaload, 1) := by decide +kernel
theorem dX10_drop_39 : decode cX10_drop 39 = .ok (.ireturn, 1) := by decide +kernel
theorem dX10_item_0 : decode cX10_item 0 = .ok (.iload_n 1, 1) := by decide +kernel
theorem dX10_item_1 : decode cX10_item 1 = .ok (.iload_n 2, 1) := by decide +kernel
theorem dX10_item_2 : decode cX10_item 2 = .ok (.invokestatic 304, 3) := by decide +kernel
theorem dX10_item_5 : decode cX10_item 5 = .ok (.ifCond .ne 5, 3) := by decide +kernel
theorem dX10_item_8 : decode cX10_item 8 = .ok (.iconst (-1), 1) := by decide +kernel
theorem dX10_item_9 : decode cX10_item 9 = .ok (.ireturn, 1) := by decide +kernel
theorem dX10_item_10 : decode cX10_item 10 = .ok (.aload_n 0, 1) := by decide +kernel
theorem dX10_item_11 : decode cX10_item 11 = .ok (.getfield 116, 3) := by decide +kernel
theorem dX10_item_14 : decode cX10_item 14 = .ok (.iload_n 1, 1) := by decide +kernel
theorem dX10_item_15 : decode cX10_item 15 = .ok (.iaload, 1) := by decide +kernel
theorem dX10_item_16 : decode cX10_item 16 = .ok (.iload_n 2, 1) := by decide +kernel
theorem dX10_item_17 : decode cX10_item 17 = .ok (.if_icmp .eq 20, 3) := by decide +kernel
theorem dX10_item_20 : decode cX10_item 20 = .ok (.aload_n 0, 1) := by decide +kernel
theorem dX10_item_21 : decode cX10_item 21 = .ok (.getfield 116, 3) := by decide +kernel
theorem dX10_item_24 : decode cX10_item 24 = .ok (.iload_n 1, 1) := by decide +kernel
theorem dX10_item_25 : decode cX10_item 25 = .ok (.iaload, 1) := by decide +kernel
theorem dX10_item_26 : decode cX10_item 26 = .ok (.ifCond .ge 8, 3) := by decide +kernel
theorem dX10_item_29 : decode cX10_item 29 = .ok (.bipush (-11), 2) := by decide +kernel
theorem dX10_item_31 : decode cX10_item 31 = .ok (.goto 5, 3) := by decide +kernel
theorem dX10_item_34 : decode cX10_item 34 = .ok (.bipush (-12), 2) := by decide +kernel
theorem dX10_item_36 : decode cX10_item 36 = .ok (.ireturn, 1) := by decide +kernel
theorem dX10_item_37 : decode cX10_item 37 = .ok (.iload_n 3, 1) := by decide +kernel
theorem dX10_item_38 : decode cX10_item 38 = .ok (.i2l, 1) := by decide +kernel
theorem dX10_item_39 : decode cX10_item 39 = .ok (.lconst 0, 1) := by decide +kernel
theorem dX10_item_40 : decode cX10_item 40 = .ok (.aload_n 0, 1) := by decide +kernel
theorem dX10_item_41 : decode cX10_item 41 = .ok (.getfield 119, 3) := by decide +kernel
theorem dX10_item_44 : decode cX10_item 44 = .ok (.iload_n 1, 1) := by decide +kernel
theorem dX10_item_45 : decode cX10_item 45 = .ok (.iaload, 1) := by decide +kernel
theorem dX10_item_46 : decode cX10_item 46 = .ok (.iconst 1, 1) := by decide +kernel
theorem dX10_item_47 : decode cX10_item 47 = .ok (.isub, 1) := by decide +kernel
theorem dX10_item_48 : decode cX10_item 48 = .ok (.i2l, 1) := by decide +kernel
theorem dX10_item_49 : decode cX10_item 49 = .ok (.invokestatic 143, 3) := by decide +kernel
theorem dX10_item_52 : decode cX10_item 52 = .ok (.ifCond .ne 6, 3) := by decide +kernel
theorem dX10_item_55 : decode cX10_item 55 = .ok (.bipush (-13), 2) := by decide +kernel
theorem dX10_item_57 : decode cX10_item 57 = .ok (.ireturn, 1) := by decide +kernel
theorem dX10_item_58 : decode cX10_item 58 = .ok (.aload_n 0, 1) := by decide +kernel
theorem dX10_item_59 : decode cX10_item 59 = .ok (.getfield 122, 3) := by decide +kernel
theorem dX10_item_62 : decode cX10_item 62 = .ok (.bipush 36, 2) := by decide +kernel
theorem dX10_item_64 : decode cX10_item 64 = .ok (.iload_n 1, 1) := by decide +kernel
theorem dX10_item_65 : decode cX10_item 65 = .ok (.imul, 1) := by decide +kernel
theorem dX10_item_66 : decode cX10_item 66 = .ok (.iload_n 3, 1) := by decide +kernel
theorem dX10_item_67 : decode cX10_item 67 = .ok (.iadd, 1) := by decide +kernel
theorem dX10_item_68 : decode cX10_item 68 = .ok (.iload_n 2, 1) := by decide +kernel
theorem dX10_item_69 : decode cX10_item 69 = .ok (.ifCond .ne 14, 3) := by decide +kernel
theorem dX10_item_72 : decode cX10_item 72 = .ok (.iload 4, 2) := by decide +kernel
theorem dX10_item_74 : decode cX10_item 74 = .ok (.bipush 16, 2) := by decide +kernel
theorem dX10_item_76 : decode cX10_item 76 = .ok (.ishl, 1) := by decide +kernel
theorem dX10_item_77 : decode cX10_item 77 = .ok (.bipush 16, 2) := by decide +kernel
theorem dX10_item_79 : decode cX10_item 79 = .ok (.ishr, 1) := by decide +kernel
theorem dX10_item_80 : decode cX10_item 80 = .ok (.goto 5, 3) := by decide +kernel
theorem dX10_item_83 : decode cX10_item 83 = .ok (.iload 4, 2) := by decide +kernel
theorem dX10_item_85 : decode cX10_item 85 = .ok (.iastore, 1) := by decide +kernel
theorem dX10_item_86 : decode cX10_item 86 = .ok (.iconst 1, 1) := by decide +kernel
theorem dX10_item_87 : decode cX10_item 87 = .ok (.ireturn, 1) := by decide +kernel
theorem dX10_arcs_0 : decode cX10_arcs 0 = .ok (.iload_n 1, 1) := by decide +kernel
theorem dX10_arcs_1 : decode cX10_arcs 1 = .ok (.iload_n 2, 1) := by decide +kernel
theorem dX10_arcs_2 : decode cX10_arcs 2 = .ok (.invokestatic 304, 3) := by decide +kernel
theorem dX10_arcs_5 : decode cX10_arcs 5 = .ok (.ifCond .eq 16, 3) := by decide +kernel
theorem dX10_arcs_8 : decode cX10_arcs 8 = .ok (.iload 4, 2) := by decide +kernel
theorem dX10_arcs_10 : decode cX10_arcs 10 = .ok (.i2l, 1) := by decide +kernel
theorem dX10_arcs_11 : decode cX10_arcs 11 = .ok (.lconst 0, 1) := by decide +kernel
theorem dX10_arcs_12 : decode cX10_arcs 12 = .ok (.ldc2_w 230, 3) := by decide +kernel
theorem dX10_arcs_15 : decode cX10_arcs 15 = .ok (.invokestatic 143, 3) := by decide +kernel
theorem dX10_arcs_18 : decode cX10_arcs 18 = .ok (.ifCond .ne 5, 3) := by decide +kernel
theorem dX10_arcs_21 : decode cX10_arcs 21 = .ok (.iconst (-1), 1) := by decide +kernel
theorem dX10_arcs_22 : decode cX10_arcs 22 = .ok (.ireturn, 1) := by decide +kernel
theorem dX10_arcs_23 : decode cX10_arcs 23 = .ok (.aload_n 0, 1) := by decide +kernel
theorem dX10_arcs_24 : decode cX10_arcs 24 = .ok (.getfield 116, 3) := by decide +kernel
theorem dX10_arcs_27 : decode cX10_arcs 27 = .ok (.iload_n 1, 1) := by decide +kernel
theorem dX10_arcs_28 : decode cX10_arcs 28 = .ok (.iaload, 1) := by decide +kernel
theorem dX10_arcs_29 : decode cX10_arcs 29 = .ok (.iload_n 2, 1) := by decide +kernel
theorem dX10_arcs_30 : decode cX10_arcs 30 = .ok (.if_icmp .eq 20, 3) := by decide +kernel
theorem dX10_arcs_33 : decode cX10_arcs 33 = .ok (.aload_n 0, 1) := by decide +kernel
theorem dX10_arcs_34 : decode cX10_arcs 34 = .ok (.getfield 116, 3) := by decide +kernel
theorem dX10_arcs_37 : decode cX10_arcs 37 = .ok (.iload_n 1, 1) := by decide +kernel
theorem dX10_arcs_38 : decode cX10_arcs 38 = .ok (.iaload, 1) := by decide +kernel
theorem dX10_arcs_39 : decode cX10_arcs 39 = .ok (.ifCond .ge 8, 3) := by decide +kernel
theorem dX10_arcs_42 : decode cX10_arcs 42 = .ok (.bipush (-11), 2) := by decide +kernel
theorem dX10_arcs_44 : decode cX10_arcs 44 = .ok (.goto 5, 3) := by decide +kernel
theorem dX10_arcs_47 : decode cX10_arcs 47 = .ok (.bipush (-12), 2) := by decide +kernel
theorem dX10_arcs_49 : decode cX10_arcs 49 = .ok (.ireturn, 1) := by decide +kernel
theorem dX10_arcs_50 : decode cX10_arcs 50 = .ok (.iload_n 3, 1) := by decide +kernel
theorem dX10_arcs_51 : decode cX10_arcs 51 = .ok (.i2l, 1) := by decide +kernel
theorem dX10_arcs_52 : decode cX10_arcs 52 = .ok (.lconst 0, 1) := by decide +kernel
theorem dX10_arcs_53 : decode cX10_arcs 53 = .ok (.aload_n 0, 1) := by decide +kernel
theorem dX10_arcs_54 : decode cX10_arcs 54 = .ok (.getfield 119, 3) := by decide +kernel
theorem dX10_arcs_57 : decode cX10_arcs 57 = .ok (.iload_n 1, 1) := by decide +kernel
theorem dX10_arcs_58 : decode cX10_arcs 58 = .ok (.iaload, 1) := by decide +kernel
theorem dX10_arcs_59 : decode cX10_arcs 59 = .ok (.bipush 6, 2) := by decide +kernel
theorem dX10_arcs_61 : decode cX10_arcs 61 = .ok (.iload 4, 2) := by decide +kernel
theorem dX10_arcs_63 : decode cX10_arcs 63 = .ok (.imul, 1) := by decide +kernel
theorem dX10_arcs_64 : decode cX10_arcs 64 = .ok (.isub, 1) := by decide +kernel
theorem dX10_arcs_65 : decode cX10_arcs 65 = .ok (.i2l, 1) := by decide +kernel
theorem dX10_arcs_66 : decode cX10_arcs 66 = .ok (.invokestatic 143, 3) := by decide +kernel
theorem dX10_arcs_69 : decode cX10_arcs 69 = .ok (.ifCond .ne 6, 3) := by decide +kernel
theorem dX10_arcs_72 : decode cX10_arcs 72 = .ok (.bipush (-13), 2) := by decide +kernel
theorem dX10_arcs_74 : decode cX10_arcs 74 = .ok (.ireturn, 1) := by decide +kernel
theorem dX10_arcs_75 : decode cX10_arcs 75 = .ok (.bipush 36, 2) := by decide +kernel
theorem dX10_arcs_77 : decode cX10_arcs 77 = .ok (.iload_n 1, 1) := by decide +kernel
theorem dX10_arcs_78 : decode cX10_arcs 78 = .ok (.imul, 1) := by decide +kernel
theorem dX10_arcs_79 : decode cX10_arcs 79 = .ok (.iload_n 3, 1) := by decide +kernel
theorem dX10_arcs_80 : decode cX10_arcs 80 = .ok (.iadd, 1) := by decide +kernel
theorem dX10_arcs_81 : decode cX10_arcs 81 = .ok (.istore 5, 2) := by decide +kernel
theorem dX10_arcs_83 : decode cX10_arcs 83 = .ok (.iload 5, 2) := by decide +kernel
theorem dX10_arcs_85 : decode cX10_arcs 85 = .ok (.istore 6, 2) := by decide +kernel
theorem dX10_arcs_87 : decode cX10_arcs 87 = .ok (.iload 6, 2) := by decide +kernel
theorem dX10_arcs_89 : decode cX10_arcs 89 = .ok (.iload 5, 2) := by decide +kernel
theorem dX10_arcs_91 : decode cX10_arcs 91 = .ok (.bipush 6, 2) := by decide +kernel
theorem dX10_arcs_93 : decode cX10_arcs 93 = .ok (.iload 4, 2) := by decide +kernel
theorem dX10_arcs_95 : decode cX10_arcs 95 = .ok (.imul, 1) := by decide +kernel
theorem dX10_arcs_96 : decode cX10_arcs 96 = .ok (.iadd, 1) := by decide +kernel
theorem dX10_arcs_97 : decode cX10_arcs 97 = .ok (.if_icmp .ge 82, 3) := by decide +kernel
theorem dX10_arcs_100 : decode cX10_arcs 100 = .ok (.aload_n 0, 1) := by decide +kernel
theorem dX10_arcs_101 : decode cX10_arcs 101 = .ok (.aload_n 0, 1) := by decide +kernel
theorem dX10_arcs_102 : decode cX10_arcs 102 = .ok (.getfield 122, 3) := by decide +kernel
theorem dX10_arcs_105 : decode cX10_arcs 105 = .ok (.iload 6, 2) := by decide +kernel
theorem dX10_arcs_107 : decode cX10_arcs 107 = .ok (.iaload, 1) := by decide +kernel
theorem dX10_arcs_108 : decode cX10_arcs 108 = .ok (.aload_n 0, 1) := by decide +kernel
theorem dX10_arcs_109 : decode cX10_arcs 109 = .ok (.getfield 122, 3) := by decide +kernel
theorem dX10_arcs_112 : decode cX10_arcs 112 = .ok (.iload 6, 2) := by decide +kernel
theorem dX10_arcs_114 : decode cX10_arcs 114 = .ok (.iconst 1, 1) := by decide +kernel
theorem dX10_arcs_115 : decode cX10_arcs 115 = .ok (.iadd, 1) := by decide +kernel
theorem dX10_arcs_116 : decode cX10_arcs 116 = .ok (.iaload, 1) := by decide +kernel
theorem dX10_arcs_117 : decode cX10_arcs 117 = .ok (.aload_n 0, 1) := by decide +kernel
theorem dX10_arcs_118 : decode cX10_arcs 118 = .ok (.getfield 122, 3) := by decide +kernel
theorem dX10_arcs_121 : decode cX10_arcs 121 = .ok (.iload 6, 2) := by decide +kernel
theorem dX10_arcs_123 : decode cX10_arcs 123 = .ok (.iconst 2, 1) := by decide +kernel
theorem dX10_arcs_124 : decode cX10_arcs 124 = .ok (.iadd, 1) := by decide +kernel
theorem dX10_arcs_125 : decode cX10_arcs 125 = .ok (.iaload, 1) := by decide +kernel
theorem dX10_arcs_126 : decode cX10_arcs 126 = .ok (.aload_n 0, 1) := by decide +kernel
theorem dX10_arcs_127 : decode cX10_arcs 127 = .ok (.getfield 122, 3) := by decide +kernel
theorem dX10_arcs_130 : decode cX10_arcs 130 = .ok (.iload 6, 2) := by decide +kernel
theorem dX10_arcs_132 : decode cX10_arcs 132 = .ok (.iconst 3, 1) := by decide +kernel
theorem dX10_arcs_133 : decode cX10_arcs 133 = .ok (.iadd, 1) := by decide +kernel
theorem dX10_arcs_134 : decode cX10_arcs 134 = .ok (.iaload, 1) := by decide +kernel
theorem dX10_arcs_135 : decode cX10_arcs 135 = .ok (.aload_n 0, 1) := by decide +kernel
theorem dX10_arcs_136 : decode cX10_arcs 136 = .ok (.getfield 122, 3) := by decide +kernel
theorem dX10_arcs_139 : decode cX10_arcs 139 = .ok (.iload 6, 2) := by decide +kernel
theorem dX10_arcs_141 : decode cX10_arcs 141 = .ok (.iconst 4, 1) := by decide +kernel
theorem dX10_arcs_142 : decode cX10_arcs 142 = .ok (.iadd, 1) := by decide +kernel
theorem dX10_arcs_143 : decode cX10_arcs 143 = .ok (.iaload, 1) := by decide +kernel
theorem dX10_arcs_144 : decode cX10_arcs 144 = .ok (.invokevirtual 180, 3) := by decide +kernel
theorem dX10_arcs_147 : decode cX10_arcs 147 = .ok (.ifCond .eq 23, 3) := by decide +kernel
theorem dX10_arcs_150 : decode cX10_arcs 150 = .ok (.aload_n 0, 1) := by decide +kernel
theorem dX10_arcs_151 : decode cX10_arcs 151 = .ok (.getfield 122, 3) := by decide +kernel
theorem dX10_arcs_154 : decode cX10_arcs 154 = .ok (.iload 6, 2) := by decide +kernel
theorem dX10_arcs_156 : decode cX10_arcs 156 = .ok (.iconst 5, 1) := by decide +kernel
theorem dX10_arcs_157 : decode cX10_arcs 157 = .ok (.iadd, 1) := by decide +kernel
theorem dX10_arcs_158 : decode cX10_arcs 158 = .ok (.iaload, 1) := by decide +kernel
theorem dX10_arcs_159 : decode cX10_arcs 159 = .ok (.i2l, 1) := by decide +kernel
theorem dX10_arcs_160 : decode cX10_arcs 160 = .ok (.lconst 0, 1) := by decide +kernel
theorem dX10_arcs_161 : decode cX10_arcs 161 = .ok (.ldc2_w 188, 3) := by decide +kernel
theorem dX10_arcs_164 : decode cX10_arcs 164 = .ok (.invokestatic 143, 3) := by decide +kernel
theorem dX10_arcs_167 : decode cX10_arcs 167 = .ok (.ifCond .ne 6, 3) := by decide +kernel
theorem dX10_arcs_170 : decode cX10_arcs 170 = .ok (.bipush (-2), 2) := by decide +kernel
theorem dX10_arcs_172 : decode cX10_arcs 172 = .ok (.ireturn, 1) := by decide +kernel
theorem dX10_arcs_173 : decode cX10_arcs 173 = .ok (.iinc 6 6, 3) := by decide +kernel
theorem dX10_arcs_176 : decode cX10_arcs 176 = .ok (.goto (-89), 3) := by decide +kernel
theorem dX10_arcs_179 : decode cX10_arcs 179 = .ok (.aload_n 0, 1) := by decide +kernel
theorem dX10_arcs_180 : decode cX10_arcs 180 = .ok (.getfield 177, 3) := by decide +kernel
theorem dX10_arcs_183 : decode cX10_arcs 183 = .ok (.iload 4, 2) := by decide +kernel
theorem dX10_arcs_185 : decode cX10_arcs 185 = .ok (.iadd, 1) := by decide +kernel
theorem dX10_arcs_186 : decode cX10_arcs 186 = .ok (.bipush 40, 2) := by decide +kernel
theorem dX10_arcs_188 : decode cX10_arcs 188 = .ok (.if_icmp .le 6, 3) := by decide +kernel
theorem dX10_arcs_191 : decode cX10_arcs 191 = .ok (.bipush (-3), 2) := by decide +kernel
theorem dX10_arcs_193 : decode cX10_arcs 193 = .ok (.ireturn, 1) := by decide +kernel
theorem dX10_arcs_194 : decode cX10_arcs 194 = .ok (.iload 5, 2) := by decide +kernel
theorem dX10_arcs_196 : decode cX10_arcs 196 = .ok (.istore 6, 2) := by decide +kernel
theorem dX10_arcs_198 : decode cX10_arcs 198 = .ok (.iload 6, 2) := by decide +kernel
theorem dX10_arcs_200 : decode cX10_arcs 200 = .ok (.iload 5, 2) := by decide +kernel
theorem dX10_arcs_202 : decode cX10_arcs 202 = .ok (.bipush 6, 2) := by decide +kernel
theorem dX10_arcs_204 : decode cX10_arcs 204 = .ok (.iload 4, 2) := by decide +kernel
theorem dX10_arcs_206 : decode cX10_arcs 206 = .ok (.imul, 1) := by decide +kernel
theorem dX10_arcs_207 : decode cX10_arcs 207 = .ok (.iadd, 1) := by decide +kernel
theorem dX10_arcs_208 : decode cX10_arcs 208 = .ok (.if_icmp .ge 69, 3) := by decide +kernel
theorem dX10_arcs_211 : decode cX10_arcs 211 = .ok (.aload_n 0, 1) := by decide +kernel
theorem dX10_arcs_212 : decode cX10_arcs 212 = .ok (.iconst 1, 1) := by decide +kernel
theorem dX10_arcs_213 : decode cX10_arcs 213 = .ok (.aload_n 0, 1) := by decide +kernel
theorem dX10_arcs_214 : decode cX10_arcs 214 = .ok (.getfield 122, 3) := by decide +kernel
theorem dX10_arcs_217 : decode cX10_arcs 217 = .ok (.iload 6, 2) := by decide +kernel
theorem dX10_arcs_219 : decode cX10_arcs 219 = .ok (.iaload, 1) := by decide +kernel
theorem dX10_arcs_220 : decode cX10_arcs 220 = .ok (.aload_n 0, 1) := by decide +kernel
theorem dX10_arcs_221 : decode cX10_arcs 221 = .ok (.getfield 122, 3) := by decide +kernel
theorem dX10_arcs_224 : decode cX10_arcs 224 = .ok (.iload 6, 2) := by decide +kernel
theorem dX10_arcs_226 : decode cX10_arcs 226 = .ok (.iconst 1, 1) := by decide +kernel
theorem dX10_arcs_227 : decode cX10_arcs 227 = .ok (.iadd, 1) := by decide +kernel
theorem dX10_arcs_228 : decode cX10_arcs 228 = .ok (.iaload, 1) := by decide +kernel
theorem dX10_arcs_229 : decode cX10_arcs 229 = .ok (.aload_n 0, 1) := by decide +kernel
theorem dX10_arcs_230 : decode cX10_arcs 230 = .ok (.getfield 122, 3) := by decide +kernel
theorem dX10_arcs_233 : decode cX10_arcs 233 = .ok (.iload 6, 2) := by decide +kernel
theorem dX10_arcs_235 : decode cX10_arcs 235 = .ok (.iconst 2, 1) := by decide +kernel
theorem dX10_arcs_236 : decode cX10_arcs 236 = .ok (.iadd, 1) := by decide +kernel
theorem dX10_arcs_237 : decode cX10_arcs 237 = .ok (.iaload, 1) := by decide +kernel
theorem dX10_arcs_238 : decode cX10_arcs 238 = .ok (.aload_n 0, 1) := by decide +kernel
theorem dX10_arcs_239 : decode cX10_arcs 239 = .ok (.getfield 122, 3) := by decide +kernel
theorem dX10_arcs_242 : decode cX10_arcs 242 = .ok (.iload 6, 2) := by decide +kernel
theorem dX10_arcs_244 : decode cX10_arcs 244 = .ok (.iconst 3, 1) := by decide +kernel
theorem dX10_arcs_245 : decode cX10_arcs 245 = .ok (.iadd, 1) := by decide +kernel
theorem dX10_arcs_246 : decode cX10_arcs 246 = .ok (.iaload, 1) := by decide +kernel
theorem dX10_arcs_247 : decode cX10_arcs 247 = .ok (.aload_n 0, 1) := by decide +kernel
theorem dX10_arcs_248 : decode cX10_arcs 248 = .ok (.getfield 122, 3) := by decide +kernel
theorem dX10_arcs_251 : decode cX10_arcs 251 = .ok (.iload 6, 2) := by decide +kernel
theorem dX10_arcs_253 : decode cX10_arcs 253 = .ok (.iconst 4, 1) := by decide +kernel
theorem dX10_arcs_254 : decode cX10_arcs 254 = .ok (.iadd, 1) := by decide +kernel
theorem dX10_arcs_255 : decode cX10_arcs 255 = .ok (.iaload, 1) := by decide +kernel
theorem dX10_arcs_256 : decode cX10_arcs 256 = .ok (.aload_n 0, 1) := by decide +kernel
theorem dX10_arcs_257 : decode cX10_arcs 257 = .ok (.getfield 122, 3) := by decide +kernel
theorem dX10_arcs_260 : decode cX10_arcs 260 = .ok (.iload 6, 2) := by decide +kernel
theorem dX10_arcs_262 : decode cX10_arcs 262 = .ok (.iconst 5, 1) := by decide +kernel
theorem dX10_arcs_263 : decode cX10_arcs 263 = .ok (.iadd, 1) := by decide +kernel
theorem dX10_arcs_264 : decode cX10_arcs 264 = .ok (.iaload, 1) := by decide +kernel
theorem dX10_arcs_265 : decode cX10_arcs 265 = .ok (.iconst 0, 1) := by decide +kernel
theorem dX10_arcs_266 : decode cX10_arcs 266 = .ok (.invokevirtual 184, 3) := by decide +kernel
theorem dX10_arcs_269 : decode cX10_arcs 269 = .ok (.istore 7, 2) := by decide +kernel
theorem dX10_arcs_271 : decode cX10_arcs 271 = .ok (.iinc 6 6, 3) := by decide +kernel
theorem dX10_arcs_274 : decode cX10_arcs 274 = .ok (.goto (-76), 3) := by decide +kernel
theorem dX10_arcs_277 : decode cX10_arcs 277 = .ok (.aload_n 0, 1) := by decide +kernel
theorem dX10_arcs_278 : decode cX10_arcs 278 = .ok (.getfield 177, 3) := by decide +kernel
theorem dX10_arcs_281 : decode cX10_arcs 281 = .ok (.ireturn, 1) := by decide +kernel
