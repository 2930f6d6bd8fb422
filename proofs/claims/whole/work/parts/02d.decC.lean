theorem dX9_init_0 : decode cX9_init 0 = .ok (.aload_n 0, 1) := by decide +kernel
theorem dX9_init_1 : decode cX9_init 1 = .ok (.invokespecial 1, 3) := by decide +kernel
theorem dX9_init_4 : decode cX9_init 4 = .ok (.aload_n 0, 1) := by decide +kernel
theorem dX9_init_5 : decode cX9_init 5 = .ok (.bipush 8, 2) := by decide +kernel
theorem dX9_init_7 : decode cX9_init 7 = .ok (.anewarray 9, 3) := by decide +kernel
theorem dX9_init_10 : decode cX9_init 10 = .ok (.putfield 11, 3) := by decide +kernel
theorem dX9_init_13 : decode cX9_init 13 = .ok (.aload_n 0, 1) := by decide +kernel
theorem dX9_init_14 : decode cX9_init 14 = .ok (.bipush 40, 2) := by decide +kernel
theorem dX9_init_16 : decode cX9_init 16 = .ok (.anewarray 15, 3) := by decide +kernel
theorem dX9_init_19 : decode cX9_init 19 = .ok (.putfield 17, 3) := by decide +kernel
theorem dX9_init_22 : decode cX9_init 22 = .ok (.aload_n 0, 1) := by decide +kernel
theorem dX9_init_23 : decode cX9_init 23 = .ok (.bipush 60, 2) := by decide +kernel
theorem dX9_init_25 : decode cX9_init 25 = .ok (.anewarray 21, 3) := by decide +kernel
theorem dX9_init_28 : decode cX9_init 28 = .ok (.putfield 23, 3) := by decide +kernel
theorem dX9_init_31 : decode cX9_init 31 = .ok (.aload_n 0, 1) := by decide +kernel
theorem dX9_init_32 : decode cX9_init 32 = .ok (.bipush 20, 2) := by decide +kernel
theorem dX9_init_34 : decode cX9_init 34 = .ok (.newarray .int, 2) := by decide +kernel
theorem dX9_init_36 : decode cX9_init 36 = .ok (.putfield 27, 3) := by decide +kernel
theorem dX9_init_39 : decode cX9_init 39 = .ok (.aload_n 0, 1) := by decide +kernel
theorem dX9_init_40 : decode cX9_init 40 = .ok (.bipush 20, 2) := by decide +kernel
theorem dX9_init_42 : decode cX9_init 42 = .ok (.newarray .int, 2) := by decide +kernel
theorem dX9_init_44 : decode cX9_init 44 = .ok (.putfield 31, 3) := by decide +kernel
theorem dX9_init_47 : decode cX9_init 47 = .ok (.aload_n 0, 1) := by decide +kernel
theorem dX9_init_48 : decode cX9_init 48 = .ok (.bipush 40, 2) := by decide +kernel
theorem dX9_init_50 : decode cX9_init 50 = .ok (.newarray .int, 2) := by decide +kernel
theorem dX9_init_52 : decode cX9_init 52 = .ok (.putfield 34, 3) := by decide +kernel
theorem dX9_init_55 : decode cX9_init 55 = .ok (.aload_n 0, 1) := by decide +kernel
theorem dX9_init_56 : decode cX9_init 56 = .ok (.bipush 40, 2) := by decide +kernel
theorem dX9_init_58 : decode cX9_init 58 = .ok (.newarray .int, 2) := by decide +kernel
theorem dX9_init_60 : decode cX9_init 60 = .ok (.putfield 37, 3) := by decide +kernel
theorem dX9_init_63 : decode cX9_init 63 = .ok (.aload_n 0, 1) := by decide +kernel
theorem dX9_init_64 : decode cX9_init 64 = .ok (.iconst 4, 1) := by decide +kernel
theorem dX9_init_65 : decode cX9_init 65 = .ok (.anewarray 40, 3) := by decide +kernel
theorem dX9_init_68 : decode cX9_init 68 = .ok (.putfield 42, 3) := by decide +kernel
theorem dX9_init_71 : decode cX9_init 71 = .ok (.aload_n 0, 1) := by decide +kernel
theorem dX9_init_72 : decode cX9_init 72 = .ok (.new 46, 3) := by decide +kernel
theorem dX9_init_75 : decode cX9_init 75 = .ok (.dup, 1) := by decide +kernel
theorem dX9_init_76 : decode cX9_init 76 = .ok (.invokespecial 48, 3) := by decide +kernel
theorem dX9_init_79 : decode cX9_init 79 = .ok (.putfield 49, 3) := by decide +kernel
theorem dX9_init_82 : decode cX9_init 82 = .ok (.aload_n 0, 1) := by decide +kernel
theorem dX9_init_83 : decode cX9_init 83 = .ok (.new 53, 3) := by decide +kernel
theorem dX9_init_86 : decode cX9_init 86 = .ok (.dup, 1) := by decide +kernel
theorem dX9_init_87 : decode cX9_init 87 = .ok (.invokespecial 55, 3) := by decide +kernel
theorem dX9_init_90 : decode cX9_init 90 = .ok (.putfield 56, 3) := by decide +kernel
theorem dX9_init_93 : decode cX9_init 93 = .ok (.aload_n 0, 1) := by decide +kernel
theorem dX9_init_94 : decode cX9_init 94 = .ok (.bipush 20, 2) := by decide +kernel
theorem dX9_init_96 : decode cX9_init 96 = .ok (.putfield 60, 3) := by decide +kernel
theorem dX9_init_99 : decode cX9_init 99 = .ok (.aload_n 0, 1) := by decide +kernel
theorem dX9_init_100 : decode cX9_init 100 = .ok (.bipush 20, 2) := by decide +kernel
theorem dX9_init_102 : decode cX9_init 102 = .ok (.putfield 64, 3) := by decide +kernel
theorem dX9_init_105 : decode cX9_init 105 = .ok (.return_, 1) := by decide +kernel
theorem dX9_station_0 : decode cX9_station 0 = .ok (.iload_n 1, 1) := by decide +kernel
theorem dX9_station_1 : decode cX9_station 1 = .ok (.iconst 0, 1) := by decide +kernel
theorem dX9_station_2 : decode cX9_station 2 = .ok (.sipush 2000, 3) := by decide +kernel
theorem dX9_station_5 : decode cX9_station 5 = .ok (.invokestatic 67, 3) := by decide +kernel
theorem dX9_station_8 : decode cX9_station 8 = .ok (.ifCond .eq 14, 3) := by decide +kernel
theorem dX9_station_11 : decode cX9_station 11 = .ok (.iload_n 2, 1) := by decide +kernel
theorem dX9_station_12 : decode cX9_station 12 = .ok (.iconst 0, 1) := by decide +kernel
theorem dX9_station_13 : decode cX9_station 13 = .ok (.sipush 2000, 3) := by decide +kernel
theorem dX9_station_16 : decode cX9_station 16 = .ok (.invokestatic 67, 3) := by decide +kernel
theorem dX9_station_19 : decode cX9_station 19 = .ok (.ifCond .ne 5, 3) := by decide +kernel
theorem dX9_station_22 : decode cX9_station 22 = .ok (.iconst (-1), 1) := by decide +kernel
theorem dX9_station_23 : decode cX9_station 23 = .ok (.ireturn, 1) := by decide +kernel
theorem dX9_station_24 : decode cX9_station 24 = .ok (.aload_n 0, 1) := by decide +kernel
theorem dX9_station_25 : decode cX9_station 25 = .ok (.getfield 71, 3) := by decide +kernel
theorem dX9_station_28 : decode cX9_station 28 = .ok (.bipush 8, 2) := by decide +kernel
theorem dX9_station_30 : decode cX9_station 30 = .ok (.if_icmp .lt 6, 3) := by decide +kernel
theorem dX9_station_33 : decode cX9_station 33 = .ok (.bipush (-3), 2) := by decide +kernel
theorem dX9_station_35 : decode cX9_station 35 = .ok (.ireturn, 1) := by decide +kernel
theorem dX9_station_36 : decode cX9_station 36 = .ok (.aload_n 0, 1) := by decide +kernel
theorem dX9_station_37 : decode cX9_station 37 = .ok (.getfield 71, 3) := by decide +kernel
theorem dX9_station_40 : decode cX9_station 40 = .ok (.istore_n 3, 1) := by decide +kernel
theorem dX9_station_41 : decode cX9_station 41 = .ok (.aload_n 0, 1) := by decide +kernel
theorem dX9_station_42 : decode cX9_station 42 = .ok (.getfield 11, 3) := by decide +kernel
theorem dX9_station_45 : decode cX9_station 45 = .ok (.iload_n 3, 1) := by decide +kernel
theorem dX9_station_46 : decode cX9_station 46 = .ok (.new 9, 3) := by decide +kernel
theorem dX9_station_49 : decode cX9_station 49 = .ok (.dup, 1) := by decide +kernel
theorem dX9_station_50 : decode cX9_station 50 = .ok (.iload_n 3, 1) := by decide +kernel
theorem dX9_station_51 : decode cX9_station 51 = .ok (.iload_n 1, 1) := by decide +kernel
theorem dX9_station_52 : decode cX9_station 52 = .ok (.iload_n 2, 1) := by decide +kernel
theorem dX9_station_53 : decode cX9_station 53 = .ok (.invokespecial 74, 3) := by decide +kernel
theorem dX9_station_56 : decode cX9_station 56 = .ok (.aastore, 1) := by decide +kernel
theorem dX9_station_57 : decode cX9_station 57 = .ok (.aload_n 0, 1) := by decide +kernel
theorem dX9_station_58 : decode cX9_station 58 = .ok (.dup, 1) := by decide +kernel
theorem dX9_station_59 : decode cX9_station 59 = .ok (.getfield 71, 3) := by decide +kernel
theorem dX9_station_62 : decode cX9_station 62 = .ok (.iconst 1, 1) := by decide +kernel
theorem dX9_station_63 : decode cX9_station 63 = .ok (.iadd, 1) := by decide +kernel
theorem dX9_station_64 : decode cX9_station 64 = .ok (.putfield 71, 3) := by decide +kernel
theorem dX9_station_67 : decode cX9_station 67 = .ok (.iload_n 3, 1) := by decide +kernel
theorem dX9_station_68 : decode cX9_station 68 = .ok (.ireturn, 1) := by decide +kernel
theorem dX9_clock_0 : decode cX9_clock 0 = .ok (.aload_n 0, 1) := by decide +kernel
theorem dX9_clock_1 : decode cX9_clock 1 = .ok (.iload_n 1, 1) := by decide +kernel
theorem dX9_clock_2 : decode cX9_clock 2 = .ok (.invokevirtual 77, 3) := by decide +kernel
theorem dX9_clock_5 : decode cX9_clock 5 = .ok (.astore 4, 2) := by decide +kernel
theorem dX9_clock_7 : decode cX9_clock 7 = .ok (.aload 4, 2) := by decide +kernel
theorem dX9_clock_9 : decode cX9_clock 9 = .ok (.ifnull 24, 3) := by decide +kernel
theorem dX9_clock_12 : decode cX9_clock 12 = .ok (.iload_n 2, 1) := by decide +kernel
theorem dX9_clock_13 : decode cX9_clock 13 = .ok (.bipush (-60), 2) := by decide +kernel
theorem dX9_clock_15 : decode cX9_clock 15 = .ok (.bipush 60, 2) := by decide +kernel
theorem dX9_clock_17 : decode cX9_clock 17 = .ok (.invokestatic 67, 3) := by decide +kernel
theorem dX9_clock_20 : decode cX9_clock 20 = .ok (.ifCond .eq 13, 3) := by decide +kernel
theorem dX9_clock_23 : decode cX9_clock 23 = .ok (.iload_n 3, 1) := by decide +kernel
theorem dX9_clock_24 : decode cX9_clock 24 = .ok (.iload_n 2, 1) := by decide +kernel
theorem dX9_clock_25 : decode cX9_clock 25 = .ok (.bipush 60, 2) := by decide +kernel
theorem dX9_clock_27 : decode cX9_clock 27 = .ok (.invokestatic 67, 3) := by decide +kernel
theorem dX9_clock_30 : decode cX9_clock 30 = .ok (.ifCond .ne 5, 3) := by decide +kernel
theorem dX9_clock_33 : decode cX9_clock 33 = .ok (.iconst (-1), 1) := by decide +kernel
theorem dX9_clock_34 : decode cX9_clock 34 = .ok (.ireturn, 1) := by decide +kernel
theorem dX9_clock_35 : decode cX9_clock 35 = .ok (.aload 4, 2) := by decide +kernel
theorem dX9_clock_37 : decode cX9_clock 37 = .ok (.iload_n 2, 1) := by decide +kernel
theorem dX9_clock_38 : decode cX9_clock 38 = .ok (.putfield 81, 3) := by decide +kernel
theorem dX9_clock_41 : decode cX9_clock 41 = .ok (.aload 4, 2) := by decide +kernel
theorem dX9_clock_43 : decode cX9_clock 43 = .ok (.iload_n 3, 1) := by decide +kernel
theorem dX9_clock_44 : decode cX9_clock 44 = .ok (.putfield 84, 3) := by decide +kernel
theorem dX9_clock_47 : decode cX9_clock 47 = .ok (.iconst 1, 1) := by decide +kernel
theorem dX9_clock_48 : decode cX9_clock 48 = .ok (.ireturn, 1) := by decide +kernel
theorem dX9_glow_0 : decode cX9_glow 0 = .ok (.aload_n 0, 1) := by decide +kernel
theorem dX9_glow_1 : decode cX9_glow 1 = .ok (.iload_n 1, 1) := by decide +kernel
theorem dX9_glow_2 : decode cX9_glow 2 = .ok (.invokevirtual 77, 3) := by decide +kernel
theorem dX9_glow_5 : decode cX9_glow 5 = .ok (.astore 6, 2) := by decide +kernel
theorem dX9_glow_7 : decode cX9_glow 7 = .ok (.aload 6, 2) := by decide +kernel
theorem dX9_glow_9 : decode cX9_glow 9 = .ok (.ifnull 15, 3) := by decide +kernel
theorem dX9_glow_12 : decode cX9_glow 12 = .ok (.iload_n 2, 1) := by decide +kernel
theorem dX9_glow_13 : decode cX9_glow 13 = .ok (.iload_n 3, 1) := by decide +kernel
theorem dX9_glow_14 : decode cX9_glow 14 = .ok (.iload 4, 2) := by decide +kernel
theorem dX9_glow_16 : decode cX9_glow 16 = .ok (.iload 5, 2) := by decide +kernel
theorem dX9_glow_18 : decode cX9_glow 18 = .ok (.invokestatic 87, 3) := by decide +kernel
theorem dX9_glow_21 : decode cX9_glow 21 = .ok (.ifCond .ne 5, 3) := by decide +kernel
theorem dX9_glow_24 : decode cX9_glow 24 = .ok (.iconst (-1), 1) := by decide +kernel
theorem dX9_glow_25 : decode cX9_glow 25 = .ok (.ireturn, 1) := by decide +kernel
theorem dX9_glow_26 : decode cX9_glow 26 = .ok (.aload_n 0, 1) := by decide +kernel
theorem dX9_glow_27 : decode cX9_glow 27 = .ok (.getfield 91, 3) := by decide +kernel
theorem dX9_glow_30 : decode cX9_glow 30 = .ok (.bipush 40, 2) := by decide +kernel
theorem dX9_glow_32 : decode cX9_glow 32 = .ok (.if_icmp .lt 6, 3) := by decide +kernel
theorem dX9_glow_35 : decode cX9_glow 35 = .ok (.bipush (-3), 2) := by decide +kernel
theorem dX9_glow_37 : decode cX9_glow 37 = .ok (.ireturn, 1) := by decide +kernel
theorem dX9_glow_38 : decode cX9_glow 38 = .ok (.aload_n 0, 1) := by decide +kernel
theorem dX9_glow_39 : decode cX9_glow 39 = .ok (.new 15, 3) := by decide +kernel
theorem dX9_glow_42 : decode cX9_glow 42 = .ok (.dup, 1) := by decide +kernel
theorem dX9_glow_43 : decode cX9_glow 43 = .ok (.aload 6, 2) := by decide +kernel
theorem dX9_glow_45 : decode cX9_glow 45 = .ok (.iload_n 2, 1) := by decide +kernel
theorem dX9_glow_46 : decode cX9_glow 46 = .ok (.iload_n 3, 1) := by decide +kernel
theorem dX9_glow_47 : decode cX9_glow 47 = .ok (.iload 4, 2) := by decide +kernel
theorem dX9_glow_49 : decode cX9_glow 49 = .ok (.iload 5, 2) := by decide +kernel
theorem dX9_glow_51 : decode cX9_glow 51 = .ok (.invokespecial 94, 3) := by decide +kernel
theorem dX9_glow_54 : decode cX9_glow 54 = .ok (.invokevirtual 97, 3) := by decide +kernel
theorem dX9_glow_57 : decode cX9_glow 57 = .ok (.ireturn, 1) := by decide +kernel
theorem dX9_arc_0 : decode cX9_arc 0 = .ok (.aload_n 0, 1) := by decide +kernel
theorem dX9_arc_1 : decode cX9_arc 1 = .ok (.iload_n 1, 1) := by decide +kernel
theorem dX9_arc_2 : decode cX9_arc 2 = .ok (.invokevirtual 77, 3) := by decide +kernel
theorem dX9_arc_5 : decode cX9_arc 5 = .ok (.astore 7, 2) := by decide +kernel
theorem dX9_arc_7 : decode cX9_arc 7 = .ok (.aload 7, 2) := by decide +kernel
theorem dX9_arc_9 : decode cX9_arc 9 = .ok (.ifnull 23, 3) := by decide +kernel
theorem dX9_arc_12 : decode cX9_arc 12 = .ok (.iload_n 2, 1) := by decide +kernel
theorem dX9_arc_13 : decode cX9_arc 13 = .ok (.iload_n 3, 1) := by decide +kernel
theorem dX9_arc_14 : decode cX9_arc 14 = .ok (.iload 4, 2) := by decide +kernel
theorem dX9_arc_16 : decode cX9_arc 16 = .ok (.iload 5, 2) := by decide +kernel
theorem dX9_arc_18 : decode cX9_arc 18 = .ok (.invokestatic 87, 3) := by decide +kernel
theorem dX9_arc_21 : decode cX9_arc 21 = .ok (.ifCond .eq 11, 3) := by decide +kernel
theorem dX9_arc_24 : decode cX9_arc 24 = .ok (.iload 6, 2) := by decide +kernel
theorem dX9_arc_26 : decode cX9_arc 26 = .ok (.invokestatic 101, 3) := by decide +kernel
theorem dX9_arc_29 : decode cX9_arc 29 = .ok (.ifCond .ne 5, 3) := by decide +kernel
theorem dX9_arc_32 : decode cX9_arc 32 = .ok (.iconst (-1), 1) := by decide +kernel
theorem dX9_arc_33 : decode cX9_arc 33 = .ok (.ireturn, 1) := by decide +kernel
theorem dX9_arc_34 : decode cX9_arc 34 = .ok (.aload_n 0, 1) := by decide +kernel
theorem dX9_arc_35 : decode cX9_arc 35 = .ok (.getfield 91, 3) := by decide +kernel
theorem dX9_arc_38 : decode cX9_arc 38 = .ok (.bipush 40, 2) := by decide +kernel
theorem dX9_arc_40 : decode cX9_arc 40 = .ok (.if_icmp .lt 6, 3) := by decide +kernel
theorem dX9_arc_43 : decode cX9_arc 43 = .ok (.bipush (-3), 2) := by decide +kernel
theorem dX9_arc_45 : decode cX9_arc 45 = .ok (.ireturn, 1) := by decide +kernel
theorem dX9_arc_46 : decode cX9_arc 46 = .ok (.aload_n 0, 1) := by decide +kernel
theorem dX9_arc_47 : decode cX9_arc 47 = .ok (.new 105, 3) := by decide +kernel
theorem dX9_arc_50 : decode cX9_arc 50 = .ok (.dup, 1) := by decide +kernel
theorem dX9_arc_51 : decode cX9_arc 51 = .ok (.aload 7, 2) := by decide +kernel
theorem dX9_arc_53 : decode cX9_arc 53 = .ok (.iload_n 2, 1) := by decide +kernel
theorem dX9_arc_54 : decode cX9_arc 54 = .ok (.iload_n 3, 1) := by decide +kernel
theorem dX9_arc_55 : decode cX9_arc 55 = .ok (.iload 4, 2) := by decide +kernel
theorem dX9_arc_57 : decode cX9_arc 57 = .ok (.iload 5, 2) := by decide +kernel
theorem dX9_arc_59 : decode cX9_arc 59 = .ok (.iload 6, 2) := by decide +kernel
theorem dX9_arc_61 : decode cX9_arc 61 = .ok (.invokespecial 107, 3) := by decide +kernel
theorem dX9_arc_64 : decode cX9_arc 64 = .ok (.invokevirtual 97, 3) := by decide +kernel
theorem dX9_arc_67 : decode cX9_arc 67 = .ok (.ireturn, 1) := by decide +kernel
theorem dX9_ray_0 : decode cX9_ray 0 = .ok (.aload_n 0, 1) := by decide +kernel
theorem dX9_ray_1 : decode cX9_ray 1 = .ok (.iload_n 1, 1) := by decide +kernel
theorem dX9_ray_2 : decode cX9_ray 2 = .ok (.invokevirtual 77, 3) := by decide +kernel
theorem dX9_ray_5 : decode cX9_ray 5 = .ok (.astore 8, 2) := by decide +kernel
theorem dX9_ray_7 : decode cX9_ray 7 = .ok (.aload 8, 2) := by decide +kernel
theorem dX9_ray_9 : decode cX9_ray 9 = .ok (.ifnull 35, 3) := by decide +kernel
theorem dX9_ray_12 : decode cX9_ray 12 = .ok (.iload_n 2, 1) := by decide +kernel
theorem dX9_ray_13 : decode cX9_ray 13 = .ok (.iload_n 3, 1) := by decide +kernel
theorem dX9_ray_14 : decode cX9_ray 14 = .ok (.iload 4, 2) := by decide +kernel
theorem dX9_ray_16 : decode cX9_ray 16 = .ok (.iload 5, 2) := by decide +kernel
theorem dX9_ray_18 : decode cX9_ray 18 = .ok (.invokestatic 87, 3) := by decide +kernel
theorem dX9_ray_21 : decode cX9_ray 21 = .ok (.ifCond .eq 23, 3) := by decide +kernel
theorem dX9_ray_24 : decode cX9_ray 24 = .ok (.iload 6, 2) := by decide +kernel
theorem dX9_ray_26 : decode cX9_ray 26 = .ok (.invokestatic 101, 3) := by decide +kernel
theorem dX9_ray_29 : decode cX9_ray 29 = .ok (.ifCond .eq 15, 3) := by decide +kernel
theorem dX9_ray_32 : decode cX9_ray 32 = .ok (.iload 7, 2) := by decide +kernel
theorem dX9_ray_34 : decode cX9_ray 34 = .ok (.bipush (-45), 2) := by decide +kernel
theorem dX9_ray_36 : decode cX9_ray 36 = .ok (.bipush 45, 2) := by decide +kernel
theorem dX9_ray_38 : decode cX9_ray 38 = .ok (.invokestatic 67, 3) := by decide +kernel
theorem dX9_ray_41 : decode cX9_ray 41 = .ok (.ifCond .ne 5, 3) := by decide +kernel
theorem dX9_ray_44 : decode cX9_ray 44 = .ok (.iconst (-1), 1) := by decide +kernel
theorem dX9_ray_45 : decode cX9_ray 45 = .ok (.ireturn, 1) := by decide +kernel
theorem dX9_ray_46 : decode cX9_ray 46 = .ok (.aload_n 0, 1) := by decide +kernel
theorem dX9_ray_47 : decode cX9_ray 47 = .ok (.getfield 91, 3) := by decide +kernel
theorem dX9_ray_50 : decode cX9_ray 50 = .ok (.bipush 40, 2) := by decide +kernel
theorem dX9_ray_52 : decode cX9_ray 52 = .ok (.if_icmp .lt 6, 3) := by decide +kernel
theorem dX9_ray_55 : decode cX9_ray 55 = .ok (.bipush (-3), 2) := by decide +kernel
theorem dX9_ray_57 : decode cX9_ray 57 = .ok (.ireturn, 1) := by decide +kernel
theorem dX9_ray_58 : decode cX9_ray 58 = .ok (.aload_n 0, 1) := by decide +kernel
theorem dX9_ray_59 : decode cX9_ray 59 = .ok (.new 110, 3) := by decide +kernel
theorem dX9_ray_62 : decode cX9_ray 62 = .ok (.dup, 1) := by decide +kernel
theorem dX9_ray_63 : decode cX9_ray 63 = .ok (.aload 8, 2) := by decide +kernel
theorem dX9_ray_65 : decode cX9_ray 65 = .ok (.iload_n 2, 1) := by decide +kernel
theorem dX9_ray_66 : decode cX9_ray 66 = .ok (.iload_n 3, 1) := by decide +kernel
theorem dX9_ray_67 : decode cX9_ray 67 = .ok (.iload 4, 2) := by decide +kernel
theorem dX9_ray_69 : decode cX9_ray 69 = .ok (.iload 5, 2) := by decide +kernel
theorem dX9_ray_71 : decode cX9_ray 71 = .ok (.iload 6, 2) := by decide +kernel
theorem dX9_ray_73 : decode cX9_ray 73 = .ok (.iload 7, 2) := by decide +kernel
theorem dX9_ray_75 : decode cX9_ray 75 = .ok (.invokespecial 112, 3) := by decide +kernel
theorem dX9_ray_78 : decode cX9_ray 78 = .ok (.invokevirtual 97, 3) := by decide +kernel
theorem dX9_ray_81 : decode cX9_ray 81 = .ok (.ireturn, 1) := by decide +kernel
theorem dX9_told_0 : decode cX9_told 0 = .ok (.aload_n 0, 1) := by decide +kernel
theorem dX9_told_1 : decode cX9_told 1 = .ok (.iload_n 1, 1) := by decide +kernel
theorem dX9_told_2 : decode cX9_told 2 = .ok (.invokevirtual 115, 3) := by decide +kernel
theorem dX9_told_5 : decode cX9_told 5 = .ok (.astore_n 3, 1) := by decide +kernel
theorem dX9_told_6 : decode cX9_told 6 = .ok (.aload_n 3, 1) := by decide +kernel
theorem dX9_told_7 : decode cX9_told 7 = .ok (.ifnonnull 7, 3) := by decide +kernel
theorem dX9_told_10 : decode cX9_told 10 = .ok (.sipush (-1001), 3) := by decide +kernel
theorem dX9_told_13 : decode cX9_told 13 = .ok (.ireturn, 1) := by decide +kernel
theorem dX9_told_14 : decode cX9_told 14 = .ok (.iload_n 2, 1) := by decide +kernel
theorem dX9_told_15 : decode cX9_told 15 = .ok (.tableswitch 88 0 7 #[45, 50, 58, 63, 68, 73, 78, 83], 45) := by decide +kernel
theorem dX9_told_60 : decode cX9_told 60 = .ok (.aload_n 3, 1) := by decide +kernel
theorem dX9_told_61 : decode cX9_told 61 = .ok (.invokevirtual 119, 3) := by decide +kernel
theorem dX9_told_64 : decode cX9_told 64 = .ok (.ireturn, 1) := by decide +kernel
theorem dX9_told_65 : decode cX9_told 65 = .ok (.aload_n 3, 1) := by decide +kernel
theorem dX9_told_66 : decode cX9_told 66 = .ok (.getfield 123, 3) := by decide +kernel
theorem dX9_told_69 : decode cX9_told 69 = .ok (.getfield 127, 3) := by decide +kernel
theorem dX9_told_72 : decode cX9_told 72 = .ok (.ireturn, 1) := by decide +kernel
theorem dX9_told_73 : decode cX9_told 73 = .ok (.aload_n 3, 1) := by decide +kernel
theorem dX9_told_74 : decode cX9_told 74 = .ok (.getfield 130, 3) := by decide +kernel
theorem dX9_told_77 : decode cX9_told 77 = .ok (.ireturn, 1) := by decide +kernel
theorem dX9_told_78 : decode cX9_told 78 = .ok (.aload_n 3, 1) := by decide +kernel
theorem dX9_told_79 : decode cX9_told 79 = .ok (.getfield 133, 3) := by decide +kernel
theorem dX9_told_82 : decode cX9_told 82 = .ok (.ireturn, 1) := by decide +kernel
theorem dX9_told_83 : decode cX9_told 83 = .ok (.aload_n 3, 1) := by decide +kernel
theorem dX9_told_84 : decode cX9_told 84 = .ok (.getfield 136, 3) := by decide +kernel
theorem dX9_told_87 : decode cX9_told 87 = .ok (.ireturn, 1) := by decide +kernel
theorem dX9_told_88 : decode cX9_told 88 = .ok (.aload_n 3, 1) := by decide +kernel
theorem dX9_told_89 : decode cX9_told 89 = .ok (.getfield 139, 3) := by decide +kernel
theorem dX9_told_92 : decode cX9_told 92 = .ok (.ireturn, 1) := by decide +kernel
theorem dX9_told_93 : decode cX9_told 93 = .ok (.aload_n 3, 1) := by decide +kernel
theorem dX9_told_94 : decode cX9_told 94 = .ok (.invokevirtual 142, 3) := by decide +kernel
theorem dX9_told_97 : decode cX9_told 97 = .ok (.ireturn, 1) := by decide +kernel
theorem dX9_told_98 : decode cX9_told 98 = .ok (.aload_n 3, 1) := by decide +kernel
theorem dX9_told_99 : decode cX9_told 99 = .ok (.invokevirtual 145, 3) := by decide +kernel
theorem dX9_told_102 : decode cX9_told 102 = .ok (.ireturn, 1) := by decide +kernel
theorem dX9_told_103 : decode cX9_told 103 = .ok (.sipush (-1001), 3) := by decide +kernel
theorem dX9_told_106 : decode cX9_told 106 = .ok (.ireturn, 1) := by decide +kernel
theorem dX9_colour_0 : decode cX9_colour 0 = .ok (.aload_n 0, 1) := by decide +kernel
theorem dX9_colour_1 : decode cX9_colour 1 = .ok (.iload_n 1, 1) := by decide +kernel
theorem dX9_colour_2 : decode cX9_colour 2 = .ok (.invokevirtual 115, 3) := by decide +kernel
theorem dX9_colour_5 : decode cX9_colour 5 = .ok (.astore_n 2, 1) := by decide +kernel
theorem dX9_colour_6 : decode cX9_colour 6 = .ok (.aload_n 2, 1) := by decide +kernel
theorem dX9_colour_7 : decode cX9_colour 7 = .ok (.ifnonnull 5, 3) := by decide +kernel
theorem dX9_colour_10 : decode cX9_colour 10 = .ok (.iconst (-1), 1) := by decide +kernel
theorem dX9_colour_11 : decode cX9_colour 11 = .ok (.ireturn, 1) := by decide +kernel
theorem dX9_colour_12 : decode cX9_colour 12 = .ok (.aload_n 2, 1) := by decide +kernel
theorem dX9_colour_13 : decode cX9_colour 13 = .ok (.instanceof 105, 3) := by decide +kernel
theorem dX9_colour_16 : decode cX9_colour 16 = .ok (.ifCond .eq 13, 3) := by decide +kernel
theorem dX9_colour_19 : decode cX9_colour 19 = .ok (.aload_n 2, 1) := by decide +kernel
theorem dX9_colour_20 : decode cX9_colour 20 = .ok (.checkcast 105, 3) := by decide +kernel
theorem dX9_colour_23 : decode cX9_colour 23 = .ok (.astore_n 3, 1) := by decide +kernel
theorem dX9_colour_24 : decode cX9_colour 24 = .ok (.aload_n 3, 1) := by decide +kernel
theorem dX9_colour_25 : decode cX9_colour 25 = .ok (.getfield 148, 3) := by decide +kernel
theorem dX9_colour_28 : decode cX9_colour 28 = .ok (.ireturn, 1) := by decide +kernel
theorem dX9_colour_29 : decode cX9_colour 29 = .ok (.bipush (-12), 2) := by decide +kernel
theorem dX9_colour_31 : decode cX9_colour 31 = .ok (.ireturn, 1) := by decide +kernel
theorem dX9_lean_0 : decode cX9_lean 0 = .ok (.aload_n 0, 1) := by decide +kernel
theorem dX9_lean_1 : decode cX9_lean 1 = .ok (.iload_n 1, 1) := by decide +kernel
theorem dX9_lean_2 : decode cX9_lean 2 = .ok (.invokevirtual 115, 3) := by decide +kernel
theorem dX9_lean_5 : decode cX9_lean 5 = .ok (.astore_n 2, 1) := by decide +kernel
theorem dX9_lean_6 : decode cX9_lean 6 = .ok (.aload_n 2, 1) := by decide +kernel
theorem dX9_lean_7 : decode cX9_lean 7 = .ok (.ifnonnull 6, 3) := by decide +kernel
theorem dX9_lean_10 : decode cX9_lean 10 = .ok (.bipush (-101), 2) := by decide +kernel
theorem dX9_lean_12 : decode cX9_lean 12 = .ok (.ireturn, 1) := by decide +kernel
theorem dX9_lean_13 : decode cX9_lean 13 = .ok (.aload_n 2, 1) := by decide +kernel
theorem dX9_lean_14 : decode cX9_lean 14 = .ok (.instanceof 110, 3) := by decide +kernel
theorem dX9_lean_17 : decode cX9_lean 17 = .ok (.ifCond .eq 13, 3) := by decide +kernel
theorem dX9_lean_20 : decode cX9_lean 20 = .ok (.aload_n 2, 1) := by decide +kernel
theorem dX9_lean_21 : decode cX9_lean 21 = .ok (.checkcast 110, 3) := by decide +kernel
theorem dX9_lean_24 : decode cX9_lean 24 = .ok (.astore_n 3, 1) := by decide +kernel
theorem dX9_lean_25 : decode cX9_lean 25 = .ok (.aload_n 3, 1) := by decide +kernel
theorem dX9_lean_26 : decode cX9_lean 26 = .ok (.getfield 151, 3) := by decide +kernel
theorem dX9_lean_29 : decode cX9_lean 29 = .ok (.ireturn, 1) := by decide +kernel
theorem dX9_lean_30 : decode cX9_lean 30 = .ok (.bipush (-112), 2) := by decide +kernel
theorem dX9_lean_32 : decode cX9_lean 32 = .ok (.ireturn, 1) := by decide +kernel
theorem dX9_table_0 : decode cX9_table 0 = .ok (.iload_n 1, 1) := by decide +kernel
theorem dX9_table_1 : decode cX9_table 1 = .ok (.ifCond .ne 19, 3) := by decide +kernel
theorem dX9_table_4 : decode cX9_table 4 = .ok (.iload_n 2, 1) := by decide +kernel
theorem dX9_table_5 : decode cX9_table 5 = .ok (.iconst 0, 1) := by decide +kernel
theorem dX9_table_6 : decode cX9_table 6 = .ok (.sipush 359, 3) := by decide +kernel
theorem dX9_table_9 : decode cX9_table 9 = .ok (.invokestatic 67, 3) := by decide +kernel
theorem dX9_table_12 : decode cX9_table 12 = .ok (.ifCond .eq 8, 3) := by decide +kernel
theorem dX9_table_15 : decode cX9_table 15 = .ok (.iload_n 2, 1) := by decide +kernel
theorem dX9_table_16 : decode cX9_table 16 = .ok (.invokestatic 154, 3) := by decide +kernel
theorem dX9_table_19 : decode cX9_table 19 = .ok (.ireturn, 1) := by decide +kernel
theorem dX9_table_20 : decode cX9_table 20 = .ok (.iload_n 1, 1) := by decide +kernel
theorem dX9_table_21 : decode cX9_table 21 = .ok (.iconst 1, 1) := by decide +kernel
theorem dX9_table_22 : decode cX9_table 22 = .ok (.if_icmp .ne 19, 3) := by decide +kernel
theorem dX9_table_25 : decode cX9_table 25 = .ok (.iload_n 2, 1) := by decide +kernel
theorem dX9_table_26 : decode cX9_table 26 = .ok (.iconst 0, 1) := by decide +kernel
theorem dX9_table_27 : decode cX9_table 27 = .ok (.sipush 359, 3) := by decide +kernel
theorem dX9_table_30 : decode cX9_table 30 = .ok (.invokestatic 67, 3) := by decide +kernel
theorem dX9_table_33 : decode cX9_table 33 = .ok (.ifCond .eq 8, 3) := by decide +kernel
theorem dX9_table_36 : decode cX9_table 36 = .ok (.iload_n 2, 1) := by decide +kernel
theorem dX9_table_37 : decode cX9_table 37 = .ok (.invokestatic 158, 3) := by decide +kernel
theorem dX9_table_40 : decode cX9_table 40 = .ok (.ireturn, 1) := by decide +kernel
theorem dX9_table_41 : decode cX9_table 41 = .ok (.iload_n 1, 1) := by decide +kernel
theorem dX9_table_42 : decode cX9_table 42 = .ok (.iconst 2, 1) := by decide +kernel
theorem dX9_table_43 : decode cX9_table 43 = .ok (.if_icmp .ne 19, 3) := by decide +kernel
theorem dX9_table_46 : decode cX9_table 46 = .ok (.iload_n 2, 1) := by decide +kernel
theorem dX9_table_47 : decode cX9_table 47 = .ok (.iconst 1, 1) := by decide +kernel
theorem dX9_table_48 : decode cX9_table 48 = .ok (.bipush 89, 2) := by decide +kernel
theorem dX9_table_50 : decode cX9_table 50 = .ok (.invokestatic 67, 3) := by decide +kernel
theorem dX9_table_53 : decode cX9_table 53 = .ok (.ifCond .eq 9, 3) := by decide +kernel
theorem dX9_table_56 : decode cX9_table 56 = .ok (.getstatic 161, 3) := by decide +kernel
theorem dX9_table_59 : decode cX9_table 59 = .ok (.iload_n 2, 1) := by decide +kernel
theorem dX9_table_60 : decode cX9_table 60 = .ok (.iaload, 1) := by decide +kernel
theorem dX9_table_61 : decode cX9_table 61 = .ok (.ireturn, 1) := by decide +kernel
theorem dX9_table_62 : decode cX9_table 62 = .ok (.ldc 164, 2) := by decide +kernel
theorem dX9_table_64 : decode cX9_table 64 = .ok (.ireturn, 1) := by decide +kernel
theorem dX9_thick_0 : decode cX9_thick 0 = .ok (.iload_n 1, 1) := by decide +kernel
theorem dX9_thick_1 : decode cX9_thick 1 = .ok (.iconst 0, 1) := by decide +kernel
theorem dX9_thick_2 : decode cX9_thick 2 = .ok (.sipush 200, 3) := by decide +kernel
theorem dX9_thick_5 : decode cX9_thick 5 = .ok (.invokestatic 67, 3) := by decide +kernel
theorem dX9_thick_8 : decode cX9_thick 8 = .ok (.ifCond .ne 5, 3) := by decide +kernel
theorem dX9_thick_11 : decode cX9_thick 11 = .ok (.iconst (-1), 1) := by decide +kernel
theorem dX9_thick_12 : decode cX9_thick 12 = .ok (.ireturn, 1) := by decide +kernel
theorem dX9_thick_13 : decode cX9_thick 13 = .ok (.aload_n 0, 1) := by decide +kernel
theorem dX9_thick_14 : decode cX9_thick 14 = .ok (.getfield 60, 3) := by decide +kernel
theorem dX9_thick_17 : decode cX9_thick 17 = .ok (.istore_n 2, 1) := by decide +kernel
theorem dX9_thick_18 : decode cX9_thick 18 = .ok (.aload_n 0, 1) := by decide +kernel
theorem dX9_thick_19 : decode cX9_thick 19 = .ok (.iload_n 1, 1) := by decide +kernel
theorem dX9_thick_20 : decode cX9_thick 20 = .ok (.putfield 60, 3) := by decide +kernel
theorem dX9_thick_23 : decode cX9_thick 23 = .ok (.iload_n 2, 1) := by decide +kernel
theorem dX9_thick_24 : decode cX9_thick 24 = .ok (.ireturn, 1) := by decide +kernel
theorem dX9_meets_0 : decode cX9_meets 0 = .ok (.aload_n 0, 1) := by decide +kernel
theorem dX9_meets_1 : decode cX9_meets 1 = .ok (.iload_n 1, 1) := by decide +kernel
theorem dX9_meets_2 : decode cX9_meets 2 = .ok (.invokevirtual 115, 3) := by decide +kernel
theorem dX9_meets_5 : decode cX9_meets 5 = .ok (.astore_n 3, 1) := by decide +kernel
theorem dX9_meets_6 : decode cX9_meets 6 = .ok (.aload_n 0, 1) := by decide +kernel
theorem dX9_meets_7 : decode cX9_meets 7 = .ok (.iload_n 2, 1) := by decide +kernel
theorem dX9_meets_8 : decode cX9_meets 8 = .ok (.invokevirtual 115, 3) := by decide +kernel
theorem dX9_meets_11 : decode cX9_meets 11 = .ok (.astore 4, 2) := by decide +kernel
theorem dX9_meets_13 : decode cX9_meets 13 = .ok (.aload_n 3, 1) := by decide +kernel
theorem dX9_meets_14 : decode cX9_meets 14 = .ok (.ifnull 13, 3) := by decide +kernel
theorem dX9_meets_17 : decode cX9_meets 17 = .ok (.aload 4, 2) := by decide +kernel
theorem dX9_meets_19 : decode cX9_meets 19 = .ok (.ifnull 8, 3) := by decide +kernel
theorem dX9_meets_22 : decode cX9_meets 22 = .ok (.iload_n 1, 1) := by decide +kernel
theorem dX9_meets_23 : decode cX9_meets 23 = .ok (.iload_n 2, 1) := by decide +kernel
theorem dX9_meets_24 : decode cX9_meets 24 = .ok (.if_icmp .ne 5, 3) := by decide +kernel
theorem dX9_meets_27 : decode cX9_meets 27 = .ok (.iconst (-1), 1) := by decide +kernel
theorem dX9_meets_28 : decode cX9_meets 28 = .ok (.ireturn, 1) := by decide +kernel
theorem dX9_meets_29 : decode cX9_meets 29 = .ok (.aload_n 3, 1) := by decide +kernel
theorem dX9_meets_30 : decode cX9_meets 30 = .ok (.instanceof 105, 3) := by decide +kernel
theorem dX9_meets_33 : decode cX9_meets 33 = .ok (.ifCond .eq 60, 3) := by decide +kernel
theorem dX9_meets_36 : decode cX9_meets 36 = .ok (.aload_n 3, 1) := by decide +kernel
theorem dX9_meets_37 : decode cX9_meets 37 = .ok (.checkcast 105, 3) := by decide +kernel
theorem dX9_meets_40 : decode cX9_meets 40 = .ok (.astore 5, 2) := by decide +kernel
theorem dX9_meets_42 : decode cX9_meets 42 = .ok (.aload 4, 2) := by decide +kernel
theorem dX9_meets_44 : decode cX9_meets 44 = .ok (.instanceof 105, 3) := by decide +kernel
theorem dX9_meets_47 : decode cX9_meets 47 = .ok (.ifCond .eq 46, 3) := by decide +kernel
theorem dX9_meets_50 : decode cX9_meets 50 = .ok (.aload 4, 2) := by decide +kernel
theorem dX9_meets_52 : decode cX9_meets 52 = .ok (.checkcast 105, 3) := by decide +kernel
theorem dX9_meets_55 : decode cX9_meets 55 = .ok (.astore 6, 2) := by decide +kernel
theorem dX9_meets_57 : decode cX9_meets 57 = .ok (.aload_n 0, 1) := by decide +kernel
theorem dX9_meets_58 : decode cX9_meets 58 = .ok (.getfield 49, 3) := by decide +kernel
theorem dX9_meets_61 : decode cX9_meets 61 = .ok (.aload 5, 2) := by decide +kernel
theorem dX9_meets_63 : decode cX9_meets 63 = .ok (.aload 6, 2) := by decide +kernel
theorem dX9_meets_65 : decode cX9_meets 65 = .ok (.aload_n 0, 1) := by decide +kernel
theorem dX9_meets_66 : decode cX9_meets 66 = .ok (.getfield 60, 3) := by decide +kernel
theorem dX9_meets_69 : decode cX9_meets 69 = .ok (.invokevirtual 165, 3) := by decide +kernel
theorem dX9_meets_72 : decode cX9_meets 72 = .ok (.ifCond .ne 5, 3) := by decide +kernel
theorem dX9_meets_75 : decode cX9_meets 75 = .ok (.iconst 0, 1) := by decide +kernel
theorem dX9_meets_76 : decode cX9_meets 76 = .ok (.ireturn, 1) := by decide +kernel
theorem dX9_meets_77 : decode cX9_meets 77 = .ok (.aload 5, 2) := by decide +kernel
theorem dX9_meets_79 : decode cX9_meets 79 = .ok (.aload 6, 2) := by decide +kernel
theorem dX9_meets_81 : decode cX9_meets 81 = .ok (.invokevirtual 169, 3) := by decide +kernel
theorem dX9_meets_84 : decode cX9_meets 84 = .ok (.ifCond .eq 7, 3) := by decide +kernel
theorem dX9_meets_87 : decode cX9_meets 87 = .ok (.iconst 2, 1) := by decide +kernel
theorem dX9_meets_88 : decode cX9_meets 88 = .ok (.goto 4, 3) := by decide +kernel
theorem dX9_meets_91 : decode cX9_meets 91 = .ok (.iconst 1, 1) := by decide +kernel
theorem dX9_meets_92 : decode cX9_meets 92 = .ok (.ireturn, 1) := by decide +kernel
theorem dX9_meets_93 : decode cX9_meets 93 = .ok (.bipush (-12), 2) := by decide +kernel
theorem dX9_meets_95 : decode cX9_meets 95 = .ok (.ireturn, 1) := by decide +kernel
theorem dX9_cross_0 : decode cX9_cross 0 = .ok (.aload_n 0, 1) := by decide +kernel
theorem dX9_cross_1 : decode cX9_cross 1 = .ok (.iload_n 1, 1) := by decide +kernel
theorem dX9_cross_2 : decode cX9_cross 2 = .ok (.invokevirtual 115, 3) := by decide +kernel
theorem dX9_cross_5 : decode cX9_cross 5 = .ok (.astore 4, 2) := by decide +kernel
theorem dX9_cross_7 : decode cX9_cross 7 = .ok (.aload_n 0, 1) := by decide +kernel
theorem dX9_cross_8 : decode cX9_cross 8 = .ok (.iload_n 2, 1) := by decide +kernel
theorem dX9_cross_9 : decode cX9_cross 9 = .ok (.invokevirtual 115, 3) := by decide +kernel
theorem dX9_cross_12 : decode cX9_cross 12 = .ok (.astore 5, 2) := by decide +kernel
theorem dX9_cross_14 : decode cX9_cross 14 = .ok (.aload 4, 2) := by decide +kernel
theorem dX9_cross_16 : decode cX9_cross 16 = .ok (.ifnull 23, 3) := by decide +kernel
theorem dX9_cross_19 : decode cX9_cross 19 = .ok (.aload 5, 2) := by decide +kernel
theorem dX9_cross_21 : decode cX9_cross 21 = .ok (.ifnull 18, 3) := by decide +kernel
theorem dX9_cross_24 : decode cX9_cross 24 = .ok (.iload_n 1, 1) := by decide +kernel
theorem dX9_cross_25 : decode cX9_cross 25 = .ok (.iload_n 2, 1) := by decide +kernel
theorem dX9_cross_26 : decode cX9_cross 26 = .ok (.if_icmp .eq 13, 3) := by decide +kernel
theorem dX9_cross_29 : decode cX9_cross 29 = .ok (.iload_n 3, 1) := by decide +kernel
theorem dX9_cross_30 : decode cX9_cross 30 = .ok (.iconst 0, 1) := by decide +kernel
theorem dX9_cross_31 : decode cX9_cross 31 = .ok (.bipush 6, 2) := by decide +kernel
theorem dX9_cross_33 : decode cX9_cross 33 = .ok (.invokestatic 67, 3) := by decide +kernel
theorem dX9_cross_36 : decode cX9_cross 36 = .ok (.ifCond .ne 6, 3) := by decide +kernel
theorem dX9_cross_39 : decode cX9_cross 39 = .ok (.ldc 164, 2) := by decide +kernel
theorem dX9_cross_41 : decode cX9_cross 41 = .ok (.ireturn, 1) := by decide +kernel
theorem dX9_cross_42 : decode cX9_cross 42 = .ok (.aload 4, 2) := by decide +kernel
theorem dX9_cross_44 : decode cX9_cross 44 = .ok (.instanceof 105, 3) := by decide +kernel
theorem dX9_cross_47 : decode cX9_cross 47 = .ok (.ifCond .eq 58, 3) := by decide +kernel
theorem dX9_cross_50 : decode cX9_cross 50 = .ok (.aload 4, 2) := by decide +kernel
theorem dX9_cross_52 : decode cX9_cross 52 = .ok (.checkcast 105, 3) := by decide +kernel
theorem dX9_cross_55 : decode cX9_cross 55 = .ok (.astore 6, 2) := by decide +kernel
theorem dX9_cross_57 : decode cX9_cross 57 = .ok (.aload 5, 2) := by decide +kernel
theorem dX9_cross_59 : decode cX9_cross 59 = .ok (.instanceof 105, 3) := by decide +kernel
theorem dX9_cross_62 : decode cX9_cross 62 = .ok (.ifCond .eq 43, 3) := by decide +kernel
theorem dX9_cross_65 : decode cX9_cross 65 = .ok (.aload 5, 2) := by decide +kernel
theorem dX9_cross_67 : decode cX9_cross 67 = .ok (.checkcast 105, 3) := by decide +kernel
theorem dX9_cross_70 : decode cX9_cross 70 = .ok (.astore 7, 2) := by decide +kernel
theorem dX9_cross_72 : decode cX9_cross 72 = .ok (.aload_n 0, 1) := by decide +kernel
theorem dX9_cross_73 : decode cX9_cross 73 = .ok (.getfield 49, 3) := by decide +kernel
theorem dX9_cross_76 : decode cX9_cross 76 = .ok (.aload 6, 2) := by decide +kernel
theorem dX9_cross_78 : decode cX9_cross 78 = .ok (.aload 7, 2) := by decide +kernel
theorem dX9_cross_80 : decode cX9_cross 80 = .ok (.aload_n 0, 1) := by decide +kernel
theorem dX9_cross_81 : decode cX9_cross 81 = .ok (.getfield 60, 3) := by decide +kernel
theorem dX9_cross_84 : decode cX9_cross 84 = .ok (.invokevirtual 165, 3) := by decide +kernel
theorem dX9_cross_87 : decode cX9_cross 87 = .ok (.ifCond .eq 15, 3) := by decide +kernel
theorem dX9_cross_90 : decode cX9_cross 90 = .ok (.aload_n 0, 1) := by decide +kernel
theorem dX9_cross_91 : decode cX9_cross 91 = .ok (.getfield 49, 3) := by decide +kernel
theorem dX9_cross_94 : decode cX9_cross 94 = .ok (.getfield 173, 3) := by decide +kernel
theorem dX9_cross_97 : decode cX9_cross 97 = .ok (.iload_n 3, 1) := by decide +kernel
theorem dX9_cross_98 : decode cX9_cross 98 = .ok (.iaload, 1) := by decide +kernel
theorem dX9_cross_99 : decode cX9_cross 99 = .ok (.goto 5, 3) := by decide +kernel
theorem dX9_cross_102 : decode cX9_cross 102 = .ok (.ldc 176, 2) := by decide +kernel
theorem dX9_cross_104 : decode cX9_cross 104 = .ok (.ireturn, 1) := by decide +kernel
theorem dX9_cross_105 : decode cX9_cross 105 = .ok (.ldc 177, 2) := by decide +kernel
theorem dX9_cross_107 : decode cX9_cross 107 = .ok (.ireturn, 1) := by decide +kernel
theorem dX9_curtains_0 : decode cX9_curtains 0 = .ok (.iload_n 1, 1) := by decide +kernel
theorem dX9_curtains_1 : decode cX9_curtains 1 = .ok (.invokestatic 178, 3) := by decide +kernel
theorem dX9_curtains_4 : decode cX9_curtains 4 = .ok (.ifCond .eq 11, 3) := by decide +kernel
theorem dX9_curtains_7 : decode cX9_curtains 7 = .ok (.aload_n 0, 1) := by decide +kernel
theorem dX9_curtains_8 : decode cX9_curtains 8 = .ok (.iload_n 1, 1) := by decide +kernel
theorem dX9_curtains_9 : decode cX9_curtains 9 = .ok (.invokevirtual 181, 3) := by decide +kernel
theorem dX9_curtains_12 : decode cX9_curtains 12 = .ok (.goto 4, 3) := by decide +kernel
theorem dX9_curtains_15 : decode cX9_curtains 15 = .ok (.iconst (-1), 1) := by decide +kernel
theorem dX9_curtains_16 : decode cX9_curtains 16 = .ok (.ireturn, 1) := by decide +kernel
theorem dX9_curtain_0 : decode cX9_curtain 0 = .ok (.iload_n 1, 1) := by decide +kernel
theorem dX9_curtain_1 : decode cX9_curtain 1 = .ok (.invokestatic 178, 3) := by decide +kernel
theorem dX9_curtain_4 : decode cX9_curtain 4 = .ok (.ifCond .eq 16, 3) := by decide +kernel
theorem dX9_curtain_7 : decode cX9_curtain 7 = .ok (.iload_n 2, 1) := by decide +kernel
theorem dX9_curtain_8 : decode cX9_curtain 8 = .ok (.ifCond .lt 12, 3) := by decide +kernel
theorem dX9_curtain_11 : decode cX9_curtain 11 = .ok (.iload_n 3, 1) := by decide +kernel
theorem dX9_curtain_12 : decode cX9_curtain 12 = .ok (.iconst 0, 1) := by decide +kernel
theorem dX9_curtain_13 : decode cX9_curtain 13 = .ok (.iconst 5, 1) := by decide +kernel
theorem dX9_curtain_14 : decode cX9_curtain 14 = .ok (.invokestatic 67, 3) := by decide +kernel
theorem dX9_curtain_17 : decode cX9_curtain 17 = .ok (.ifCond .ne 6, 3) := by decide +kernel
theorem dX9_curtain_20 : decode cX9_curtain 20 = .ok (.ldc 164, 2) := by decide +kernel
theorem dX9_curtain_22 : decode cX9_curtain 22 = .ok (.ireturn, 1) := by decide +kernel
theorem dX9_curtain_23 : decode cX9_curtain 23 = .ok (.aload_n 0, 1) := by decide +kernel
theorem dX9_curtain_24 : decode cX9_curtain 24 = .ok (.iload_n 1, 1) := by decide +kernel
theorem dX9_curtain_25 : decode cX9_curtain 25 = .ok (.invokevirtual 181, 3) := by decide +kernel
theorem dX9_curtain_28 : decode cX9_curtain 28 = .ok (.istore 4, 2) := by decide +kernel
theorem dX9_curtain_30 : decode cX9_curtain 30 = .ok (.iload 4, 2) := by decide +kernel
theorem dX9_curtain_32 : decode cX9_curtain 32 = .ok (.bipush (-3), 2) := by decide +kernel
theorem dX9_curtain_34 : decode cX9_curtain 34 = .ok (.if_icmp .ne 6, 3) := by decide +kernel
theorem dX9_curtain_37 : decode cX9_curtain 37 = .ok (.ldc 184, 2) := by decide +kernel
theorem dX9_curtain_39 : decode cX9_curtain 39 = .ok (.ireturn, 1) := by decide +kernel
theorem dX9_curtain_40 : decode cX9_curtain 40 = .ok (.iload_n 2, 1) := by decide +kernel
theorem dX9_curtain_41 : decode cX9_curtain 41 = .ok (.iload 4, 2) := by decide +kernel
theorem dX9_curtain_43 : decode cX9_curtain 43 = .ok (.if_icmp .lt 6, 3) := by decide +kernel
theorem dX9_curtain_46 : decode cX9_curtain 46 = .ok (.ldc 164, 2) := by decide +kernel
theorem dX9_curtain_48 : decode cX9_curtain 48 = .ok (.ireturn, 1) := by decide +kernel
theorem dX9_curtain_49 : decode cX9_curtain 49 = .ok (.aload_n 0, 1) := by decide +kernel
theorem dX9_curtain_50 : decode cX9_curtain 50 = .ok (.getfield 56, 3) := by decide +kernel
theorem dX9_curtain_53 : decode cX9_curtain 53 = .ok (.getfield 185, 3) := by decide +kernel
theorem dX9_curtain_56 : decode cX9_curtain 56 = .ok (.iload_n 2, 1) := by decide +kernel
theorem dX9_curtain_57 : decode cX9_curtain 57 = .ok (.aaload, 1) := by decide +kernel
theorem dX9_curtain_58 : decode cX9_curtain 58 = .ok (.astore 5, 2) := by decide +kernel
theorem dX9_curtain_60 : decode cX9_curtain 60 = .ok (.iload_n 3, 1) := by decide +kernel
theorem dX9_curtain_61 : decode cX9_curtain 61 = .ok (.iconst 2, 1) := by decide +kernel
theorem dX9_curtain_62 : decode cX9_curtain 62 = .ok (.iconst 4, 1) := by decide +kernel
theorem dX9_curtain_63 : decode cX9_curtain 63 = .ok (.invokestatic 67, 3) := by decide +kernel
theorem dX9_curtain_66 : decode cX9_curtain 66 = .ok (.ifCond .eq 14, 3) := by decide +kernel
theorem dX9_curtain_69 : decode cX9_curtain 69 = .ok (.aload 5, 2) := by decide +kernel
theorem dX9_curtain_71 : decode cX9_curtain 71 = .ok (.invokevirtual 189, 3) := by decide +kernel
theorem dX9_curtain_74 : decode cX9_curtain 74 = .ok (.ifCond .ne 6, 3) := by decide +kernel
theorem dX9_curtain_77 : decode cX9_curtain 77 = .ok (.ldc 176, 2) := by decide +kernel
theorem dX9_curtain_79 : decode cX9_curtain 79 = .ok (.ireturn, 1) := by decide +kernel
theorem dX9_curtain_80 : decode cX9_curtain 80 = .ok (.aload 5, 2) := by decide +kernel
theorem dX9_curtain_82 : decode cX9_curtain 82 = .ok (.iload_n 3, 1) := by decide +kernel
theorem dX9_curtain_83 : decode cX9_curtain 83 = .ok (.invokevirtual 195, 3) := by decide +kernel
theorem dX9_curtain_86 : decode cX9_curtain 86 = .ok (.ireturn, 1) := by decide +kernel
theorem dX9_curtainOf_0 : decode cX9_curtainOf 0 = .ok (.aload_n 0, 1) := by decide +kernel
theorem dX9_curtainOf_1 : decode cX9_curtainOf 1 = .ok (.iload_n 1, 1) := by decide +kernel
theorem dX9_curtainOf_2 : decode cX9_curtainOf 2 = .ok (.invokevirtual 115, 3) := by decide +kernel
theorem dX9_curtainOf_5 : decode cX9_curtainOf 5 = .ok (.astore_n 2, 1) := by decide +kernel
theorem dX9_curtainOf_6 : decode cX9_curtainOf 6 = .ok (.aload_n 2, 1) := by decide +kernel
theorem dX9_curtainOf_7 : decode cX9_curtainOf 7 = .ok (.ifnonnull 5, 3) := by decide +kernel
theorem dX9_curtainOf_10 : decode cX9_curtainOf 10 = .ok (.iconst (-1), 1) := by decide +kernel
theorem dX9_curtainOf_11 : decode cX9_curtainOf 11 = .ok (.ireturn, 1) := by decide +kernel
theorem dX9_curtainOf_12 : decode cX9_curtainOf 12 = .ok (.aload_n 2, 1) := by decide +kernel
theorem dX9_curtainOf_13 : decode cX9_curtainOf 13 = .ok (.instanceof 105, 3) := by decide +kernel
theorem dX9_curtainOf_16 : decode cX9_curtainOf 16 = .ok (.ifCond .ne 6, 3) := by decide +kernel
theorem dX9_curtainOf_19 : decode cX9_curtainOf 19 = .ok (.bipush (-12), 2) := by decide +kernel
theorem dX9_curtainOf_21 : decode cX9_curtainOf 21 = .ok (.ireturn, 1) := by decide +kernel
theorem dX9_curtainOf_22 : decode cX9_curtainOf 22 = .ok (.aload_n 0, 1) := by decide +kernel
theorem dX9_curtainOf_23 : decode cX9_curtainOf 23 = .ok (.aload_n 2, 1) := by decide +kernel
theorem dX9_curtainOf_24 : decode cX9_curtainOf 24 = .ok (.getfield 130, 3) := by decide +kernel
theorem dX9_curtainOf_27 : decode cX9_curtainOf 27 = .ok (.invokevirtual 181, 3) := by decide +kernel
theorem dX9_curtainOf_30 : decode cX9_curtainOf 30 = .ok (.bipush (-3), 2) := by decide +kernel
theorem dX9_curtainOf_32 : decode cX9_curtainOf 32 = .ok (.if_icmp .ne 8, 3) := by decide +kernel
theorem dX9_curtainOf_35 : decode cX9_curtainOf 35 = .ok (.bipush (-3), 2) := by decide +kernel
theorem dX9_curtainOf_37 : decode cX9_curtainOf 37 = .ok (.goto 11, 3) := by decide +kernel
theorem dX9_curtainOf_40 : decode cX9_curtainOf 40 = .ok (.aload_n 0, 1) := by decide +kernel
theorem dX9_curtainOf_41 : decode cX9_curtainOf 41 = .ok (.getfield 56, 3) := by decide +kernel
theorem dX9_curtainOf_44 : decode cX9_curtainOf 44 = .ok (.iload_n 1, 1) := by decide +kernel
theorem dX9_curtainOf_45 : decode cX9_curtainOf 45 = .ok (.invokevirtual 198, 3) := by decide +kernel
theorem dX9_curtainOf_48 : decode cX9_curtainOf 48 = .ok (.ireturn, 1) := by decide +kernel
theorem dX9_speed_0 : decode cX9_speed 0 = .ok (.iload_n 1, 1) := by decide +kernel
theorem dX9_speed_1 : decode cX9_speed 1 = .ok (.iconst 1, 1) := by decide +kernel
theorem dX9_speed_2 : decode cX9_speed 2 = .ok (.bipush 60, 2) := by decide +kernel
theorem dX9_speed_4 : decode cX9_speed 4 = .ok (.invokestatic 67, 3) := by decide +kernel
theorem dX9_speed_7 : decode cX9_speed 7 = .ok (.ifCond .ne 5, 3) := by decide +kernel
theorem dX9_speed_10 : decode cX9_speed 10 = .ok (.iconst (-1), 1) := by decide +kernel
theorem dX9_speed_11 : decode cX9_speed 11 = .ok (.ireturn, 1) := by decide +kernel
theorem dX9_speed_12 : decode cX9_speed 12 = .ok (.aload_n 0, 1) := by decide +kernel
theorem dX9_speed_13 : decode cX9_speed 13 = .ok (.getfield 64, 3) := by decide +kernel
theorem dX9_speed_16 : decode cX9_speed 16 = .ok (.istore_n 2, 1) := by decide +kernel
theorem dX9_speed_17 : decode cX9_speed 17 = .ok (.aload_n 0, 1) := by decide +kernel
theorem dX9_speed_18 : decode cX9_speed 18 = .ok (.iload_n 1, 1) := by decide +kernel
theorem dX9_speed_19 : decode cX9_speed 19 = .ok (.putfield 64, 3) := by decide +kernel
theorem dX9_speed_22 : decode cX9_speed 22 = .ok (.iload_n 2, 1) := by decide +kernel
theorem dX9_speed_23 : decode cX9_speed 23 = .ok (.ireturn, 1) := by decide +kernel
theorem dX9_ways_0 : decode cX9_ways 0 = .ok (.iload_n 1, 1) := by decide +kernel
theorem dX9_ways_1 : decode cX9_ways 1 = .ok (.invokestatic 178, 3) := by decide +kernel
theorem dX9_ways_4 : decode cX9_ways 4 = .ok (.ifCond .ne 5, 3) := by decide +kernel
theorem dX9_ways_7 : decode cX9_ways 7 = .ok (.iconst (-1), 1) := by decide +kernel
theorem dX9_ways_8 : decode cX9_ways 8 = .ok (.ireturn, 1) := by decide +kernel
theorem dX9_ways_9 : decode cX9_ways 9 = .ok (.aload_n 0, 1) := by decide +kernel
theorem dX9_ways_10 : decode cX9_ways 10 = .ok (.iload_n 1, 1) := by decide +kernel
theorem dX9_ways_11 : decode cX9_ways 11 = .ok (.invokevirtual 181, 3) := by decide +kernel
theorem dX9_ways_14 : decode cX9_ways 14 = .ok (.bipush (-3), 2) := by decide +kernel
theorem dX9_ways_16 : decode cX9_ways 16 = .ok (.if_icmp .ne 6, 3) := by decide +kernel
theorem dX9_ways_19 : decode cX9_ways 19 = .ok (.bipush (-3), 2) := by decide +kernel
theorem dX9_ways_21 : decode cX9_ways 21 = .ok (.ireturn, 1) := by decide +kernel
theorem dX9_ways_22 : decode cX9_ways 22 = .ok (.aload_n 0, 1) := by decide +kernel
theorem dX9_ways_23 : decode cX9_ways 23 = .ok (.getfield 56, 3) := by decide +kernel
theorem dX9_ways_26 : decode cX9_ways 26 = .ok (.aload_n 0, 1) := by decide +kernel
theorem dX9_ways_27 : decode cX9_ways 27 = .ok (.getfield 64, 3) := by decide +kernel
theorem dX9_ways_30 : decode cX9_ways 30 = .ok (.invokevirtual 201, 3) := by decide +kernel
theorem dX9_ways_33 : decode cX9_ways 33 = .ok (.ireturn, 1) := by decide +kernel
theorem dX9_next_0 : decode cX9_next 0 = .ok (.iload_n 1, 1) := by decide +kernel
theorem dX9_next_1 : decode cX9_next 1 = .ok (.invokestatic 178, 3) := by decide +kernel
theorem dX9_next_4 : decode cX9_next 4 = .ok (.ifCond .eq 7, 3) := by decide +kernel
theorem dX9_next_7 : decode cX9_next 7 = .ok (.iload_n 2, 1) := by decide +kernel
theorem dX9_next_8 : decode cX9_next 8 = .ok (.ifCond .ge 5, 3) := by decide +kernel
theorem dX9_next_11 : decode cX9_next 11 = .ok (.iconst (-1), 1) := by decide +kernel
theorem dX9_next_12 : decode cX9_next 12 = .ok (.ireturn, 1) := by decide +kernel
theorem dX9_next_13 : decode cX9_next 13 = .ok (.aload_n 0, 1) := by decide +kernel
theorem dX9_next_14 : decode cX9_next 14 = .ok (.iload_n 1, 1) := by decide +kernel
theorem dX9_next_15 : decode cX9_next 15 = .ok (.invokevirtual 181, 3) := by decide +kernel
theorem dX9_next_18 : decode cX9_next 18 = .ok (.istore_n 3, 1) := by decide +kernel
theorem dX9_next_19 : decode cX9_next 19 = .ok (.iload_n 3, 1) := by decide +kernel
theorem dX9_next_20 : decode cX9_next 20 = .ok (.bipush (-3), 2) := by decide +kernel
theorem dX9_next_22 : decode cX9_next 22 = .ok (.if_icmp .ne 6, 3) := by decide +kernel
theorem dX9_next_25 : decode cX9_next 25 = .ok (.bipush (-3), 2) := by decide +kernel
theorem dX9_next_27 : decode cX9_next 27 = .ok (.ireturn, 1) := by decide +kernel
theorem dX9_next_28 : decode cX9_next 28 = .ok (.iload_n 2, 1) := by decide +kernel
theorem dX9_next_29 : decode cX9_next 29 = .ok (.iload_n 3, 1) := by decide +kernel
theorem dX9_next_30 : decode cX9_next 30 = .ok (.if_icmp .lt 5, 3) := by decide +kernel
theorem dX9_next_33 : decode cX9_next 33 = .ok (.iconst (-1), 1) := by decide +kernel
theorem dX9_next_34 : decode cX9_next 34 = .ok (.ireturn, 1) := by decide +kernel
theorem dX9_next_35 : decode cX9_next 35 = .ok (.aload_n 0, 1) := by decide +kernel
theorem dX9_next_36 : decode cX9_next 36 = .ok (.getfield 56, 3) := by decide +kernel
theorem dX9_next_39 : decode cX9_next 39 = .ok (.aload_n 0, 1) := by decide +kernel
theorem dX9_next_40 : decode cX9_next 40 = .ok (.getfield 64, 3) := by decide +kernel
theorem dX9_next_43 : decode cX9_next 43 = .ok (.invokevirtual 201, 3) := by decide +kernel
theorem dX9_next_46 : decode cX9_next 46 = .ok (.pop, 1) := by decide +kernel
theorem dX9_next_47 : decode cX9_next 47 = .ok (.aload_n 0, 1) := by decide +kernel
theorem dX9_next_48 : decode cX9_next 48 = .ok (.getfield 56, 3) := by decide +kernel
theorem dX9_next_51 : decode cX9_next 51 = .ok (.getfield 185, 3) := by decide +kernel
theorem dX9_next_54 : decode cX9_next 54 = .ok (.iload_n 2, 1) := by decide +kernel
theorem dX9_next_55 : decode cX9_next 55 = .ok (.aaload, 1) := by decide +kernel
theorem dX9_next_56 : decode cX9_next 56 = .ok (.getfield 204, 3) := by decide +kernel
theorem dX9_next_59 : decode cX9_next 59 = .ok (.ireturn, 1) := by decide +kernel
theorem dX9_overhead_0 : decode cX9_overhead 0 = .ok (.aload_n 0, 1) := by decide +kernel
theorem dX9_overhead_1 : decode cX9_overhead 1 = .ok (.iload_n 3, 1) := by decide +kernel
theorem dX9_overhead_2 : decode cX9_overhead 2 = .ok (.invokevirtual 77, 3) := by decide +kernel
theorem dX9_overhead_5 : decode cX9_overhead 5 = .ok (.astore 4, 2) := by decide +kernel
theorem dX9_overhead_7 : decode cX9_overhead 7 = .ok (.aload 4, 2) := by decide +kernel
theorem dX9_overhead_9 : decode cX9_overhead 9 = .ok (.ifnonnull 5, 3) := by decide +kernel
theorem dX9_overhead_12 : decode cX9_overhead 12 = .ok (.iconst (-1), 1) := by decide +kernel
theorem dX9_overhead_13 : decode cX9_overhead 13 = .ok (.ireturn, 1) := by decide +kernel
theorem dX9_overhead_14 : decode cX9_overhead 14 = .ok (.aload_n 0, 1) := by decide +kernel
theorem dX9_overhead_15 : decode cX9_overhead 15 = .ok (.iload_n 1, 1) := by decide +kernel
theorem dX9_overhead_16 : decode cX9_overhead 16 = .ok (.iload_n 2, 1) := by decide +kernel
theorem dX9_overhead_17 : decode cX9_overhead 17 = .ok (.invokevirtual 207, 3) := by decide +kernel
theorem dX9_overhead_20 : decode cX9_overhead 20 = .ok (.istore 5, 2) := by decide +kernel
theorem dX9_overhead_22 : decode cX9_overhead 22 = .ok (.iload 5, 2) := by decide +kernel
theorem dX9_overhead_24 : decode cX9_overhead 24 = .ok (.ifCond .ge 6, 3) := by decide +kernel
theorem dX9_overhead_27 : decode cX9_overhead 27 = .ok (.iload 5, 2) := by decide +kernel
theorem dX9_overhead_29 : decode cX9_overhead 29 = .ok (.ireturn, 1) := by decide +kernel
theorem dX9_overhead_30 : decode cX9_overhead 30 = .ok (.aload_n 0, 1) := by decide +kernel
theorem dX9_overhead_31 : decode cX9_overhead 31 = .ok (.getfield 56, 3) := by decide +kernel
theorem dX9_overhead_34 : decode cX9_overhead 34 = .ok (.getfield 185, 3) := by decide +kernel
theorem dX9_overhead_37 : decode cX9_overhead 37 = .ok (.iload_n 2, 1) := by decide +kernel
theorem dX9_overhead_38 : decode cX9_overhead 38 = .ok (.aaload, 1) := by decide +kernel
theorem dX9_overhead_39 : decode cX9_overhead 39 = .ok (.aload_n 0, 1) := by decide +kernel
theorem dX9_overhead_40 : decode cX9_overhead 40 = .ok (.getfield 56, 3) := by decide +kernel
theorem dX9_overhead_43 : decode cX9_overhead 43 = .ok (.getfield 185, 3) := by decide +kernel
theorem dX9_overhead_46 : decode cX9_overhead 46 = .ok (.iload 5, 2) := by decide +kernel
theorem dX9_overhead_48 : decode cX9_overhead 48 = .ok (.aaload, 1) := by decide +kernel
theorem dX9_overhead_49 : decode cX9_overhead 49 = .ok (.aload 4, 2) := by decide +kernel
theorem dX9_overhead_51 : decode cX9_overhead 51 = .ok (.invokevirtual 211, 3) := by decide +kernel
theorem dX9_overhead_54 : decode cX9_overhead 54 = .ok (.ireturn, 1) := by decide +kernel
theorem dX9_watch_0 : decode cX9_watch 0 = .ok (.aload_n 0, 1) := by decide +kernel
theorem dX9_watch_1 : decode cX9_watch 1 = .ok (.iload_n 1, 1) := by decide +kernel
theorem dX9_watch_2 : decode cX9_watch 2 = .ok (.invokevirtual 77, 3) := by decide +kernel
theorem dX9_watch_5 : decode cX9_watch 5 = .ok (.astore 6, 2) := by decide +kernel
theorem dX9_watch_7 : decode cX9_watch 7 = .ok (.aload 6, 2) := by decide +kernel
theorem dX9_watch_9 : decode cX9_watch 9 = .ok (.ifnull 43, 3) := by decide +kernel
theorem dX9_watch_12 : decode cX9_watch 12 = .ok (.iload_n 2, 1) := by decide +kernel
theorem dX9_watch_13 : decode cX9_watch 13 = .ok (.invokestatic 178, 3) := by decide +kernel
theorem dX9_watch_16 : decode cX9_watch 16 = .ok (.ifCond .eq 36, 3) := by decide +kernel
theorem dX9_watch_19 : decode cX9_watch 19 = .ok (.iload_n 3, 1) := by decide +kernel
theorem dX9_watch_20 : decode cX9_watch 20 = .ok (.iconst 0, 1) := by decide +kernel
theorem dX9_watch_21 : decode cX9_watch 21 = .ok (.bipush 24, 2) := by decide +kernel
theorem dX9_watch_23 : decode cX9_watch 23 = .ok (.invokestatic 67, 3) := by decide +kernel
theorem dX9_watch_26 : decode cX9_watch 26 = .ok (.ifCond .eq 26, 3) := by decide +kernel
theorem dX9_watch_29 : decode cX9_watch 29 = .ok (.iload 4, 2) := by decide +kernel
theorem dX9_watch_31 : decode cX9_watch 31 = .ok (.iconst 0, 1) := by decide +kernel
theorem dX9_watch_32 : decode cX9_watch 32 = .ok (.iload_n 3, 1) := by decide +kernel
theorem dX9_watch_33 : decode cX9_watch 33 = .ok (.invokestatic 67, 3) := by decide +kernel
theorem dX9_watch_36 : decode cX9_watch 36 = .ok (.ifCond .eq 16, 3) := by decide +kernel
theorem dX9_watch_39 : decode cX9_watch 39 = .ok (.iload 5, 2) := by decide +kernel
theorem dX9_watch_41 : decode cX9_watch 41 = .ok (.iconst 0, 1) := by decide +kernel
theorem dX9_watch_42 : decode cX9_watch 42 = .ok (.iload_n 3, 1) := by decide +kernel
theorem dX9_watch_43 : decode cX9_watch 43 = .ok (.iload 4, 2) := by decide +kernel
theorem dX9_watch_45 : decode cX9_watch 45 = .ok (.isub, 1) := by decide +kernel
theorem dX9_watch_46 : decode cX9_watch 46 = .ok (.invokestatic 67, 3) := by decide +kernel
theorem dX9_watch_49 : decode cX9_watch 49 = .ok (.ifCond .ne 5, 3) := by decide +kernel
theorem dX9_watch_52 : decode cX9_watch 52 = .ok (.iconst (-1), 1) := by decide +kernel
theorem dX9_watch_53 : decode cX9_watch 53 = .ok (.ireturn, 1) := by decide +kernel
theorem dX9_watch_54 : decode cX9_watch 54 = .ok (.aload_n 0, 1) := by decide +kernel
theorem dX9_watch_55 : decode cX9_watch 55 = .ok (.aload 6, 2) := by decide +kernel
theorem dX9_watch_57 : decode cX9_watch 57 = .ok (.iload_n 2, 1) := by decide +kernel
theorem dX9_watch_58 : decode cX9_watch 58 = .ok (.invokevirtual 215, 3) := by decide +kernel
theorem dX9_watch_61 : decode cX9_watch 61 = .ok (.ifnull 6, 3) := by decide +kernel
theorem dX9_watch_64 : decode cX9_watch 64 = .ok (.bipush (-2), 2) := by decide +kernel
theorem dX9_watch_66 : decode cX9_watch 66 = .ok (.ireturn, 1) := by decide +kernel
theorem dX9_watch_67 : decode cX9_watch 67 = .ok (.aload_n 0, 1) := by decide +kernel
theorem dX9_watch_68 : decode cX9_watch 68 = .ok (.getfield 219, 3) := by decide +kernel
theorem dX9_watch_71 : decode cX9_watch 71 = .ok (.bipush 60, 2) := by decide +kernel
theorem dX9_watch_73 : decode cX9_watch 73 = .ok (.if_icmp .lt 6, 3) := by decide +kernel
theorem dX9_watch_76 : decode cX9_watch 76 = .ok (.bipush (-3), 2) := by decide +kernel
theorem dX9_watch_78 : decode cX9_watch 78 = .ok (.ireturn, 1) := by decide +kernel
theorem dX9_watch_79 : decode cX9_watch 79 = .ok (.iload_n 3, 1) := by decide +kernel
theorem dX9_watch_80 : decode cX9_watch 80 = .ok (.iload 4, 2) := by decide +kernel
theorem dX9_watch_82 : decode cX9_watch 82 = .ok (.isub, 1) := by decide +kernel
theorem dX9_watch_83 : decode cX9_watch 83 = .ok (.istore 7, 2) := by decide +kernel
theorem dX9_watch_85 : decode cX9_watch 85 = .ok (.aload_n 0, 1) := by decide +kernel
theorem dX9_watch_86 : decode cX9_watch 86 = .ok (.getfield 23, 3) := by decide +kernel
theorem dX9_watch_89 : decode cX9_watch 89 = .ok (.aload_n 0, 1) := by decide +kernel
theorem dX9_watch_90 : decode cX9_watch 90 = .ok (.getfield 219, 3) := by decide +kernel
theorem dX9_watch_93 : decode cX9_watch 93 = .ok (.new 21, 3) := by decide +kernel
theorem dX9_watch_96 : decode cX9_watch 96 = .ok (.dup, 1) := by decide +kernel
theorem dX9_watch_97 : decode cX9_watch 97 = .ok (.aload 6, 2) := by decide +kernel
theorem dX9_watch_99 : decode cX9_watch 99 = .ok (.iload_n 2, 1) := by decide +kernel
theorem dX9_watch_100 : decode cX9_watch 100 = .ok (.iload 7, 2) := by decide +kernel
theorem dX9_watch_102 : decode cX9_watch 102 = .ok (.iload 7, 2) := by decide +kernel
theorem dX9_watch_104 : decode cX9_watch 104 = .ok (.iload 5, 2) := by decide +kernel
theorem dX9_watch_106 : decode cX9_watch 106 = .ok (.isub, 1) := by decide +kernel
theorem dX9_watch_107 : decode cX9_watch 107 = .ok (.invokespecial 222, 3) := by decide +kernel
theorem dX9_watch_110 : decode cX9_watch 110 = .ok (.aastore, 1) := by decide +kernel
theorem dX9_watch_111 : decode cX9_watch 111 = .ok (.aload_n 0, 1) := by decide +kernel
theorem dX9_watch_112 : decode cX9_watch 112 = .ok (.dup, 1) := by decide +kernel
theorem dX9_watch_113 : decode cX9_watch 113 = .ok (.getfield 219, 3) := by decide +kernel
theorem dX9_watch_116 : decode cX9_watch 116 = .ok (.iconst 1, 1) := by decide +kernel
theorem dX9_watch_117 : decode cX9_watch 117 = .ok (.iadd, 1) := by decide +kernel
theorem dX9_watch_118 : decode cX9_watch 118 = .ok (.putfield 219, 3) := by decide +kernel
theorem dX9_watch_121 : decode cX9_watch 121 = .ok (.iload 7, 2) := by decide +kernel
theorem dX9_watch_123 : decode cX9_watch 123 = .ok (.ireturn, 1) := by decide +kernel
theorem dX9_seen_0 : decode cX9_seen 0 = .ok (.aload_n 0, 1) := by decide +kernel
theorem dX9_seen_1 : decode cX9_seen 1 = .ok (.iload_n 1, 1) := by decide +kernel
theorem dX9_seen_2 : decode cX9_seen 2 = .ok (.invokevirtual 77, 3) := by decide +kernel
theorem dX9_seen_5 : decode cX9_seen 5 = .ok (.astore_n 3, 1) := by decide +kernel
theorem dX9_seen_6 : decode cX9_seen 6 = .ok (.aload_n 3, 1) := by decide +kernel
theorem dX9_seen_7 : decode cX9_seen 7 = .ok (.ifnull 10, 3) := by decide +kernel
theorem dX9_seen_10 : decode cX9_seen 10 = .ok (.iload_n 2, 1) := by decide +kernel
theorem dX9_seen_11 : decode cX9_seen 11 = .ok (.invokestatic 178, 3) := by decide +kernel
theorem dX9_seen_14 : decode cX9_seen 14 = .ok (.ifCond .ne 5, 3) := by decide +kernel
theorem dX9_seen_17 : decode cX9_seen 17 = .ok (.iconst (-1), 1) := by decide +kernel
theorem dX9_seen_18 : decode cX9_seen 18 = .ok (.ireturn, 1) := by decide +kernel
theorem dX9_seen_19 : decode cX9_seen 19 = .ok (.aload_n 0, 1) := by decide +kernel
theorem dX9_seen_20 : decode cX9_seen 20 = .ok (.aload_n 3, 1) := by decide +kernel
theorem dX9_seen_21 : decode cX9_seen 21 = .ok (.iload_n 2, 1) := by decide +kernel
theorem dX9_seen_22 : decode cX9_seen 22 = .ok (.invokevirtual 225, 3) := by decide +kernel
theorem dX9_seen_25 : decode cX9_seen 25 = .ok (.ifCond .eq 5, 3) := by decide +kernel
theorem dX9_seen_28 : decode cX9_seen 28 = .ok (.iconst 1, 1) := by decide +kernel
theorem dX9_seen_29 : decode cX9_seen 29 = .ok (.ireturn, 1) := by decide +kernel
theorem dX9_seen_30 : decode cX9_seen 30 = .ok (.aload_n 0, 1) := by decide +kernel
theorem dX9_seen_31 : decode cX9_seen 31 = .ok (.aload_n 3, 1) := by decide +kernel
theorem dX9_seen_32 : decode cX9_seen 32 = .ok (.iload_n 2, 1) := by decide +kernel
theorem dX9_seen_33 : decode cX9_seen 33 = .ok (.invokevirtual 215, 3) := by decide +kernel
theorem dX9_seen_36 : decode cX9_seen 36 = .ok (.astore 4, 2) := by decide +kernel
theorem dX9_seen_38 : decode cX9_seen 38 = .ok (.aload 4, 2) := by decide +kernel
theorem dX9_seen_40 : decode cX9_seen 40 = .ok (.ifnonnull 6, 3) := by decide +kernel
theorem dX9_seen_43 : decode cX9_seen 43 = .ok (.bipush (-4), 2) := by decide +kernel
theorem dX9_seen_45 : decode cX9_seen 45 = .ok (.ireturn, 1) := by decide +kernel
theorem dX9_seen_46 : decode cX9_seen 46 = .ok (.aload 4, 2) := by decide +kernel
theorem dX9_seen_48 : decode cX9_seen 48 = .ok (.getfield 229, 3) := by decide +kernel
theorem dX9_seen_51 : decode cX9_seen 51 = .ok (.ifCond .le 7, 3) := by decide +kernel
theorem dX9_seen_54 : decode cX9_seen 54 = .ok (.iconst 0, 1) := by decide +kernel
theorem dX9_seen_55 : decode cX9_seen 55 = .ok (.goto 5, 3) := by decide +kernel
theorem dX9_seen_58 : decode cX9_seen 58 = .ok (.bipush (-2), 2) := by decide +kernel
theorem dX9_seen_60 : decode cX9_seen 60 = .ok (.ireturn, 1) := by decide +kernel
theorem dX9_rate_0 : decode cX9_rate 0 = .ok (.iload_n 1, 1) := by decide +kernel
theorem dX9_rate_1 : decode cX9_rate 1 = .ok (.iconst (-1), 1) := by decide +kernel
theorem dX9_rate_2 : decode cX9_rate 2 = .ok (.if_icmp .eq 13, 3) := by decide +kernel
theorem dX9_rate_5 : decode cX9_rate 5 = .ok (.aload_n 0, 1) := by decide +kernel
theorem dX9_rate_6 : decode cX9_rate 6 = .ok (.iload_n 1, 1) := by decide +kernel
theorem dX9_rate_7 : decode cX9_rate 7 = .ok (.invokevirtual 77, 3) := by decide +kernel
theorem dX9_rate_10 : decode cX9_rate 10 = .ok (.ifnonnull 5, 3) := by decide +kernel
theorem dX9_rate_13 : decode cX9_rate 13 = .ok (.iconst (-1), 1) := by decide +kernel
theorem dX9_rate_14 : decode cX9_rate 14 = .ok (.ireturn, 1) := by decide +kernel
theorem dX9_rate_15 : decode cX9_rate 15 = .ok (.iload_n 2, 1) := by decide +kernel
theorem dX9_rate_16 : decode cX9_rate 16 = .ok (.invokestatic 178, 3) := by decide +kernel
theorem dX9_rate_19 : decode cX9_rate 19 = .ok (.ifCond .eq 25, 3) := by decide +kernel
theorem dX9_rate_22 : decode cX9_rate 22 = .ok (.iload_n 3, 1) := by decide +kernel
theorem dX9_rate_23 : decode cX9_rate 23 = .ok (.invokestatic 178, 3) := by decide +kernel
theorem dX9_rate_26 : decode cX9_rate 26 = .ok (.ifCond .eq 18, 3) := by decide +kernel
theorem dX9_rate_29 : decode cX9_rate 29 = .ok (.iload_n 2, 1) := by decide +kernel
theorem dX9_rate_30 : decode cX9_rate 30 = .ok (.iload_n 3, 1) := by decide +kernel
theorem dX9_rate_31 : decode cX9_rate 31 = .ok (.if_icmp .gt 13, 3) := by decide +kernel
theorem dX9_rate_34 : decode cX9_rate 34 = .ok (.iload 4, 2) := by decide +kernel
theorem dX9_rate_36 : decode cX9_rate 36 = .ok (.iconst 0, 1) := by decide +kernel
theorem dX9_rate_37 : decode cX9_rate 37 = .ok (.iconst 3, 1) := by decide +kernel
theorem dX9_rate_38 : decode cX9_rate 38 = .ok (.invokestatic 67, 3) := by decide +kernel
theorem dX9_rate_41 : decode cX9_rate 41 = .ok (.ifCond .ne 5, 3) := by decide +kernel
theorem dX9_rate_44 : decode cX9_rate 44 = .ok (.iconst (-1), 1) := by decide +kernel
theorem dX9_rate_45 : decode cX9_rate 45 = .ok (.ireturn, 1) := by decide +kernel
theorem dX9_rate_46 : decode cX9_rate 46 = .ok (.iconst 0, 1) := by decide +kernel
theorem dX9_rate_47 : decode cX9_rate 47 = .ok (.istore 5, 2) := by decide +kernel
theorem dX9_rate_49 : decode cX9_rate 49 = .ok (.iconst 0, 1) := by decide +kernel
theorem dX9_rate_50 : decode cX9_rate 50 = .ok (.istore 6, 2) := by decide +kernel
theorem dX9_rate_52 : decode cX9_rate 52 = .ok (.iconst 0, 1) := by decide +kernel
theorem dX9_rate_53 : decode cX9_rate 53 = .ok (.istore 7, 2) := by decide +kernel
theorem dX9_rate_55 : decode cX9_rate 55 = .ok (.iconst 0, 1) := by decide +kernel
theorem dX9_rate_56 : decode cX9_rate 56 = .ok (.istore 8, 2) := by decide +kernel
theorem dX9_rate_58 : decode cX9_rate 58 = .ok (.iload 8, 2) := by decide +kernel
theorem dX9_rate_60 : decode cX9_rate 60 = .ok (.aload_n 0, 1) := by decide +kernel
theorem dX9_rate_61 : decode cX9_rate 61 = .ok (.getfield 219, 3) := by decide +kernel
theorem dX9_rate_64 : decode cX9_rate 64 = .ok (.if_icmp .ge 108, 3) := by decide +kernel
theorem dX9_rate_67 : decode cX9_rate 67 = .ok (.aload_n 0, 1) := by decide +kernel
theorem dX9_rate_68 : decode cX9_rate 68 = .ok (.getfield 23, 3) := by decide +kernel
theorem dX9_rate_71 : decode cX9_rate 71 = .ok (.iload 8, 2) := by decide +kernel
theorem dX9_rate_73 : decode cX9_rate 73 = .ok (.aaload, 1) := by decide +kernel
theorem dX9_rate_74 : decode cX9_rate 74 = .ok (.astore 9, 2) := by decide +kernel
theorem dX9_rate_76 : decode cX9_rate 76 = .ok (.iload_n 1, 1) := by decide +kernel
theorem dX9_rate_77 : decode cX9_rate 77 = .ok (.iconst (-1), 1) := by decide +kernel
theorem dX9_rate_78 : decode cX9_rate 78 = .ok (.if_icmp .eq 15, 3) := by decide +kernel
theorem dX9_rate_81 : decode cX9_rate 81 = .ok (.aload 9, 2) := by decide +kernel
theorem dX9_rate_83 : decode cX9_rate 83 = .ok (.getfield 232, 3) := by decide +kernel
theorem dX9_rate_86 : decode cX9_rate 86 = .ok (.getfield 127, 3) := by decide +kernel
theorem dX9_rate_89 : decode cX9_rate 89 = .ok (.iload_n 1, 1) := by decide +kernel
theorem dX9_rate_90 : decode cX9_rate 90 = .ok (.if_icmp .ne 20, 3) := by decide +kernel
theorem dX9_rate_93 : decode cX9_rate 93 = .ok (.aload 9, 2) := by decide +kernel
theorem dX9_rate_95 : decode cX9_rate 95 = .ok (.getfield 233, 3) := by decide +kernel
theorem dX9_rate_98 : decode cX9_rate 98 = .ok (.iload_n 2, 1) := by decide +kernel
theorem dX9_rate_99 : decode cX9_rate 99 = .ok (.iload_n 3, 1) := by decide +kernel
theorem dX9_rate_100 : decode cX9_rate 100 = .ok (.invokestatic 67, 3) := by decide +kernel
theorem dX9_rate_103 : decode cX9_rate 103 = .ok (.ifCond .eq 7, 3) := by decide +kernel
theorem dX9_rate_106 : decode cX9_rate 106 = .ok (.iconst 1, 1) := by decide +kernel
theorem dX9_rate_107 : decode cX9_rate 107 = .ok (.goto 4, 3) := by decide +kernel
theorem dX9_rate_110 : decode cX9_rate 110 = .ok (.iconst 0, 1) := by decide +kernel
theorem dX9_rate_111 : decode cX9_rate 111 = .ok (.istore 10, 2) := by decide +kernel
theorem dX9_rate_113 : decode cX9_rate 113 = .ok (.iload 10, 2) := by decide +kernel
theorem dX9_rate_115 : decode cX9_rate 115 = .ok (.ifCond .eq 51, 3) := by decide +kernel
theorem dX9_rate_118 : decode cX9_rate 118 = .ok (.aload 9, 2) := by decide +kernel
theorem dX9_rate_120 : decode cX9_rate 120 = .ok (.getfield 234, 3) := by decide +kernel
theorem dX9_rate_123 : decode cX9_rate 123 = .ok (.ifCond .le 43, 3) := by decide +kernel
theorem dX9_rate_126 : decode cX9_rate 126 = .ok (.iinc 5 1, 3) := by decide +kernel
theorem dX9_rate_129 : decode cX9_rate 129 = .ok (.iload 6, 2) := by decide +kernel
theorem dX9_rate_131 : decode cX9_rate 131 = .ok (.aload 9, 2) := by decide +kernel
theorem dX9_rate_133 : decode cX9_rate 133 = .ok (.getfield 234, 3) := by decide +kernel
theorem dX9_rate_136 : decode cX9_rate 136 = .ok (.iadd, 1) := by decide +kernel
theorem dX9_rate_137 : decode cX9_rate 137 = .ok (.istore 6, 2) := by decide +kernel
theorem dX9_rate_139 : decode cX9_rate 139 = .ok (.iload 7, 2) := by decide +kernel
theorem dX9_rate_141 : decode cX9_rate 141 = .ok (.aload_n 0, 1) := by decide +kernel
theorem dX9_rate_142 : decode cX9_rate 142 = .ok (.aload 9, 2) := by decide +kernel
theorem dX9_rate_144 : decode cX9_rate 144 = .ok (.getfield 232, 3) := by decide +kernel
theorem dX9_rate_147 : decode cX9_rate 147 = .ok (.aload 9, 2) := by decide +kernel
theorem dX9_rate_149 : decode cX9_rate 149 = .ok (.getfield 233, 3) := by decide +kernel
theorem dX9_rate_152 : decode cX9_rate 152 = .ok (.invokevirtual 225, 3) := by decide +kernel
theorem dX9_rate_155 : decode cX9_rate 155 = .ok (.ifCond .eq 7, 3) := by decide +kernel
theorem dX9_rate_158 : decode cX9_rate 158 = .ok (.iconst 1, 1) := by decide +kernel
theorem dX9_rate_159 : decode cX9_rate 159 = .ok (.goto 4, 3) := by decide +kernel
theorem dX9_rate_162 : decode cX9_rate 162 = .ok (.iconst 0, 1) := by decide +kernel
theorem dX9_rate_163 : decode cX9_rate 163 = .ok (.iadd, 1) := by decide +kernel
theorem dX9_rate_164 : decode cX9_rate 164 = .ok (.istore 7, 2) := by decide +kernel
theorem dX9_rate_166 : decode cX9_rate 166 = .ok (.iinc 8 1, 3) := by decide +kernel
theorem dX9_rate_169 : decode cX9_rate 169 = .ok (.goto (-111), 3) := by decide +kernel
theorem dX9_rate_172 : decode cX9_rate 172 = .ok (.iload 4, 2) := by decide +kernel
theorem dX9_rate_174 : decode cX9_rate 174 = .ok (.tableswitch 35 0 2 #[26, 29, 32], 26) := by decide +kernel
theorem dX9_rate_200 : decode cX9_rate 200 = .ok (.iload 5, 2) := by decide +kernel
theorem dX9_rate_202 : decode cX9_rate 202 = .ok (.ireturn, 1) := by decide +kernel
theorem dX9_rate_203 : decode cX9_rate 203 = .ok (.iload 7, 2) := by decide +kernel
theorem dX9_rate_205 : decode cX9_rate 205 = .ok (.ireturn, 1) := by decide +kernel
theorem dX9_rate_206 : decode cX9_rate 206 = .ok (.iload 6, 2) := by decide +kernel
theorem dX9_rate_208 : decode cX9_rate 208 = .ok (.ireturn, 1) := by decide +kernel
theorem dX9_rate_209 : decode cX9_rate 209 = .ok (.iload 6, 2) := by decide +kernel
theorem dX9_rate_211 : decode cX9_rate 211 = .ok (.ifCond .ne 7, 3) := by decide +kernel
theorem dX9_rate_214 : decode cX9_rate 214 = .ok (.iconst 0, 1) := by decide +kernel
theorem dX9_rate_215 : decode cX9_rate 215 = .ok (.goto 12, 3) := by decide +kernel
theorem dX9_rate_218 : decode cX9_rate 218 = .ok (.sipush 1000, 3) := by decide +kernel
theorem dX9_rate_221 : decode cX9_rate 221 = .ok (.iload 7, 2) := by decide +kernel
theorem dX9_rate_223 : decode cX9_rate 223 = .ok (.imul, 1) := by decide +kernel
theorem dX9_rate_224 : decode cX9_rate 224 = .ok (.iload 6, 2) := by decide +kernel
theorem dX9_rate_226 : decode cX9_rate 226 = .ok (.idiv, 1) := by decide +kernel
theorem dX9_rate_227 : decode cX9_rate 227 = .ok (.ireturn, 1) := by decide +kernel
theorem dX9_round_0 : decode cX9_round 0 = .ok (.iload_n 1, 1) := by decide +kernel
theorem dX9_round_1 : decode cX9_round 1 = .ok (.bipush 20, 2) := by decide +kernel
theorem dX9_round_3 : decode cX9_round 3 = .ok (.bipush 40, 2) := by decide +kernel
theorem dX9_round_5 : decode cX9_round 5 = .ok (.invokestatic 67, 3) := by decide +kernel
theorem dX9_round_8 : decode cX9_round 8 = .ok (.ifCond .eq 11, 3) := by decide +kernel
theorem dX9_round_11 : decode cX9_round 11 = .ok (.aload_n 0, 1) := by decide +kernel
theorem dX9_round_12 : decode cX9_round 12 = .ok (.iload_n 1, 1) := by decide +kernel
theorem dX9_round_13 : decode cX9_round 13 = .ok (.invokevirtual 237, 3) := by decide +kernel
theorem dX9_round_16 : decode cX9_round 16 = .ok (.goto 4, 3) := by decide +kernel
theorem dX9_round_19 : decode cX9_round 19 = .ok (.iconst (-1), 1) := by decide +kernel
theorem dX9_round_20 : decode cX9_round 20 = .ok (.ireturn, 1) := by decide +kernel
theorem dX9_best_0 : decode cX9_best 0 = .ok (.aload_n 0, 1) := by decide +kernel
theorem dX9_best_1 : decode cX9_best 1 = .ok (.getfield 240, 3) := by decide +kernel
theorem dX9_best_4 : decode cX9_best 4 = .ok (.iconst 3, 1) := by decide +kernel
theorem dX9_best_5 : decode cX9_best 5 = .ok (.if_icmp .ge 6, 3) := by decide +kernel
theorem dX9_best_8 : decode cX9_best 8 = .ok (.bipush (-4), 2) := by decide +kernel
theorem dX9_best_10 : decode cX9_best 10 = .ok (.ireturn, 1) := by decide +kernel
theorem dX9_best_11 : decode cX9_best 11 = .ok (.bipush 20, 2) := by decide +kernel
theorem dX9_best_13 : decode cX9_best 13 = .ok (.istore_n 1, 1) := by decide +kernel
theorem dX9_best_14 : decode cX9_best 14 = .ok (.aload_n 0, 1) := by decide +kernel
theorem dX9_best_15 : decode cX9_best 15 = .ok (.bipush 20, 2) := by decide +kernel
theorem dX9_best_17 : decode cX9_best 17 = .ok (.invokevirtual 237, 3) := by decide +kernel
theorem dX9_best_20 : decode cX9_best 20 = .ok (.istore_n 2, 1) := by decide +kernel
theorem dX9_best_21 : decode cX9_best 21 = .ok (.bipush 21, 2) := by decide +kernel
theorem dX9_best_23 : decode cX9_best 23 = .ok (.istore_n 3, 1) := by decide +kernel
theorem dX9_best_24 : decode cX9_best 24 = .ok (.iload_n 3, 1) := by decide +kernel
theorem dX9_best_25 : decode cX9_best 25 = .ok (.bipush 40, 2) := by decide +kernel
theorem dX9_best_27 : decode cX9_best 27 = .ok (.if_icmp .gt 27, 3) := by decide +kernel
theorem dX9_best_30 : decode cX9_best 30 = .ok (.aload_n 0, 1) := by decide +kernel
theorem dX9_best_31 : decode cX9_best 31 = .ok (.iload_n 3, 1) := by decide +kernel
theorem dX9_best_32 : decode cX9_best 32 = .ok (.invokevirtual 237, 3) := by decide +kernel
theorem dX9_best_35 : decode cX9_best 35 = .ok (.istore 4, 2) := by decide +kernel
theorem dX9_best_37 : decode cX9_best 37 = .ok (.iload 4, 2) := by decide +kernel
theorem dX9_best_39 : decode cX9_best 39 = .ok (.iload_n 2, 1) := by decide +kernel
theorem dX9_best_40 : decode cX9_best 40 = .ok (.if_icmp .le 8, 3) := by decide +kernel
theorem dX9_best_43 : decode cX9_best 43 = .ok (.iload_n 3, 1) := by decide +kernel
theorem dX9_best_44 : decode cX9_best 44 = .ok (.istore_n 1, 1) := by decide +kernel
theorem dX9_best_45 : decode cX9_best 45 = .ok (.iload 4, 2) := by decide +kernel
theorem dX9_best_47 : decode cX9_best 47 = .ok (.istore_n 2, 1) := by decide +kernel
theorem dX9_best_48 : decode cX9_best 48 = .ok (.iinc 3 1, 3) := by decide +kernel
theorem dX9_best_51 : decode cX9_best 51 = .ok (.goto (-27), 3) := by decide +kernel
theorem dX9_best_54 : decode cX9_best 54 = .ok (.iload_n 1, 1) := by decide +kernel
theorem dX9_best_55 : decode cX9_best 55 = .ok (.ireturn, 1) := by decide +kernel
theorem dX9_share_0 : decode cX9_share 0 = .ok (.aload_n 0, 1) := by decide +kernel
theorem dX9_share_1 : decode cX9_share 1 = .ok (.iload_n 1, 1) := by decide +kernel
theorem dX9_share_2 : decode cX9_share 2 = .ok (.invokevirtual 115, 3) := by decide +kernel
theorem dX9_share_5 : decode cX9_share 5 = .ok (.astore_n 3, 1) := by decide +kernel
theorem dX9_share_6 : decode cX9_share 6 = .ok (.aload_n 0, 1) := by decide +kernel
theorem dX9_share_7 : decode cX9_share 7 = .ok (.iload_n 2, 1) := by decide +kernel
theorem dX9_share_8 : decode cX9_share 8 = .ok (.invokevirtual 115, 3) := by decide +kernel
theorem dX9_share_11 : decode cX9_share 11 = .ok (.astore 4, 2) := by decide +kernel
theorem dX9_share_13 : decode cX9_share 13 = .ok (.aload_n 3, 1) := by decide +kernel
theorem dX9_share_14 : decode cX9_share 14 = .ok (.ifnull 26, 3) := by decide +kernel
theorem dX9_share_17 : decode cX9_share 17 = .ok (.aload 4, 2) := by decide +kernel
theorem dX9_share_19 : decode cX9_share 19 = .ok (.ifnull 21, 3) := by decide +kernel
theorem dX9_share_22 : decode cX9_share 22 = .ok (.aload_n 3, 1) := by decide +kernel
theorem dX9_share_23 : decode cX9_share 23 = .ok (.getfield 123, 3) := by decide +kernel
theorem dX9_share_26 : decode cX9_share 26 = .ok (.getfield 127, 3) := by decide +kernel
theorem dX9_share_29 : decode cX9_share 29 = .ok (.aload 4, 2) := by decide +kernel
theorem dX9_share_31 : decode cX9_share 31 = .ok (.getfield 123, 3) := by decide +kernel
theorem dX9_share_34 : decode cX9_share 34 = .ok (.getfield 127, 3) := by decide +kernel
theorem dX9_share_37 : decode cX9_share 37 = .ok (.if_icmp .ne 5, 3) := by decide +kernel
theorem dX9_share_40 : decode cX9_share 40 = .ok (.iconst (-1), 1) := by decide +kernel
theorem dX9_share_41 : decode cX9_share 41 = .ok (.ireturn, 1) := by decide +kernel
theorem dX9_share_42 : decode cX9_share 42 = .ok (.aload_n 0, 1) := by decide +kernel
theorem dX9_share_43 : decode cX9_share 43 = .ok (.iload_n 1, 1) := by decide +kernel
theorem dX9_share_44 : decode cX9_share 44 = .ok (.iload_n 2, 1) := by decide +kernel
theorem dX9_share_45 : decode cX9_share 45 = .ok (.invokevirtual 243, 3) := by decide +kernel
theorem dX9_share_48 : decode cX9_share 48 = .ok (.ifCond .eq 6, 3) := by decide +kernel
theorem dX9_share_51 : decode cX9_share 51 = .ok (.bipush (-2), 2) := by decide +kernel
theorem dX9_share_53 : decode cX9_share 53 = .ok (.ireturn, 1) := by decide +kernel
theorem dX9_share_54 : decode cX9_share 54 = .ok (.aload_n 0, 1) := by decide +kernel
theorem dX9_share_55 : decode cX9_share 55 = .ok (.getfield 247, 3) := by decide +kernel
theorem dX9_share_58 : decode cX9_share 58 = .ok (.bipush 20, 2) := by decide +kernel
theorem dX9_share_60 : decode cX9_share 60 = .ok (.if_icmp .lt 6, 3) := by decide +kernel
theorem dX9_share_63 : decode cX9_share 63 = .ok (.bipush (-3), 2) := by decide +kernel
theorem dX9_share_65 : decode cX9_share 65 = .ok (.ireturn, 1) := by decide +kernel
theorem dX9_share_66 : decode cX9_share 66 = .ok (.aload_n 0, 1) := by decide +kernel
theorem dX9_share_67 : decode cX9_share 67 = .ok (.getfield 27, 3) := by decide +kernel
theorem dX9_share_70 : decode cX9_share 70 = .ok (.aload_n 0, 1) := by decide +kernel
theorem dX9_share_71 : decode cX9_share 71 = .ok (.getfield 247, 3) := by decide +kernel
theorem dX9_share_74 : decode cX9_share 74 = .ok (.iload_n 1, 1) := by decide +kernel
theorem dX9_share_75 : decode cX9_share 75 = .ok (.iastore, 1) := by decide +kernel
theorem dX9_share_76 : decode cX9_share 76 = .ok (.aload_n 0, 1) := by decide +kernel
theorem dX9_share_77 : decode cX9_share 77 = .ok (.getfield 31, 3) := by decide +kernel
theorem dX9_share_80 : decode cX9_share 80 = .ok (.aload_n 0, 1) := by decide +kernel
theorem dX9_share_81 : decode cX9_share 81 = .ok (.getfield 247, 3) := by decide +kernel
theorem dX9_share_84 : decode cX9_share 84 = .ok (.iload_n 2, 1) := by decide +kernel
theorem dX9_share_85 : decode cX9_share 85 = .ok (.iastore, 1) := by decide +kernel
theorem dX9_share_86 : decode cX9_share 86 = .ok (.aload_n 0, 1) := by decide +kernel
theorem dX9_share_87 : decode cX9_share 87 = .ok (.dup, 1) := by decide +kernel
theorem dX9_share_88 : decode cX9_share 88 = .ok (.getfield 247, 3) := by decide +kernel
theorem dX9_share_91 : decode cX9_share 91 = .ok (.iconst 1, 1) := by decide +kernel
theorem dX9_share_92 : decode cX9_share 92 = .ok (.iadd, 1) := by decide +kernel
theorem dX9_share_93 : decode cX9_share 93 = .ok (.putfield 247, 3) := by decide +kernel
theorem dX9_share_96 : decode cX9_share 96 = .ok (.aload_n 0, 1) := by decide +kernel
theorem dX9_share_97 : decode cX9_share 97 = .ok (.getfield 247, 3) := by decide +kernel
theorem dX9_share_100 : decode cX9_share 100 = .ok (.ireturn, 1) := by decide +kernel
theorem dX9_mended_0 : decode cX9_mended 0 = .ok (.aload_n 0, 1) := by decide +kernel
theorem dX9_mended_1 : decode cX9_mended 1 = .ok (.iload_n 1, 1) := by decide +kernel
theorem dX9_mended_2 : decode cX9_mended 2 = .ok (.invokevirtual 77, 3) := by decide +kernel
theorem dX9_mended_5 : decode cX9_mended 5 = .ok (.astore_n 3, 1) := by decide +kernel
theorem dX9_mended_6 : decode cX9_mended 6 = .ok (.aload_n 3, 1) := by decide +kernel
theorem dX9_mended_7 : decode cX9_mended 7 = .ok (.ifnull 12, 3) := by decide +kernel
theorem dX9_mended_10 : decode cX9_mended 10 = .ok (.iload_n 2, 1) := by decide +kernel
theorem dX9_mended_11 : decode cX9_mended 11 = .ok (.iconst 0, 1) := by decide +kernel
theorem dX9_mended_12 : decode cX9_mended 12 = .ok (.iconst 1, 1) := by decide +kernel
theorem dX9_mended_13 : decode cX9_mended 13 = .ok (.invokestatic 67, 3) := by decide +kernel
theorem dX9_mended_16 : decode cX9_mended 16 = .ok (.ifCond .ne 7, 3) := by decide +kernel
theorem dX9_mended_19 : decode cX9_mended 19 = .ok (.sipush (-10001), 3) := by decide +kernel
theorem dX9_mended_22 : decode cX9_mended 22 = .ok (.ireturn, 1) := by decide +kernel
theorem dX9_mended_23 : decode cX9_mended 23 = .ok (.aload_n 3, 1) := by decide +kernel
theorem dX9_mended_24 : decode cX9_mended 24 = .ok (.getfield 81, 3) := by decide +kernel
theorem dX9_mended_27 : decode cX9_mended 27 = .ok (.istore 4, 2) := by decide +kernel
theorem dX9_mended_29 : decode cX9_mended 29 = .ok (.aload_n 3, 1) := by decide +kernel
theorem dX9_mended_30 : decode cX9_mended 30 = .ok (.getfield 84, 3) := by decide +kernel
theorem dX9_mended_33 : decode cX9_mended 33 = .ok (.istore 5, 2) := by decide +kernel
theorem dX9_mended_35 : decode cX9_mended 35 = .ok (.iconst 0, 1) := by decide +kernel
theorem dX9_mended_36 : decode cX9_mended 36 = .ok (.istore 6, 2) := by decide +kernel
theorem dX9_mended_38 : decode cX9_mended 38 = .ok (.iload 6, 2) := by decide +kernel
theorem dX9_mended_40 : decode cX9_mended 40 = .ok (.aload_n 0, 1) := by decide +kernel
theorem dX9_mended_41 : decode cX9_mended 41 = .ok (.getfield 247, 3) := by decide +kernel
theorem dX9_mended_44 : decode cX9_mended 44 = .ok (.if_icmp .ge 162, 3) := by decide +kernel
theorem dX9_mended_47 : decode cX9_mended 47 = .ok (.aload_n 0, 1) := by decide +kernel
theorem dX9_mended_48 : decode cX9_mended 48 = .ok (.getfield 17, 3) := by decide +kernel
theorem dX9_mended_51 : decode cX9_mended 51 = .ok (.aload_n 0, 1) := by decide +kernel
theorem dX9_mended_52 : decode cX9_mended 52 = .ok (.getfield 27, 3) := by decide +kernel
theorem dX9_mended_55 : decode cX9_mended 55 = .ok (.iload 6, 2) := by decide +kernel
theorem dX9_mended_57 : decode cX9_mended 57 = .ok (.iaload, 1) := by decide +kernel
theorem dX9_mended_58 : decode cX9_mended 58 = .ok (.aaload, 1) := by decide +kernel
theorem dX9_mended_59 : decode cX9_mended 59 = .ok (.astore 7, 2) := by decide +kernel
theorem dX9_mended_61 : decode cX9_mended 61 = .ok (.aload_n 0, 1) := by decide +kernel
theorem dX9_mended_62 : decode cX9_mended 62 = .ok (.getfield 17, 3) := by decide +kernel
theorem dX9_mended_65 : decode cX9_mended 65 = .ok (.aload_n 0, 1) := by decide +kernel
theorem dX9_mended_66 : decode cX9_mended 66 = .ok (.getfield 31, 3) := by decide +kernel
theorem dX9_mended_69 : decode cX9_mended 69 = .ok (.iload 6, 2) := by decide +kernel
theorem dX9_mended_71 : decode cX9_mended 71 = .ok (.iaload, 1) := by decide +kernel
theorem dX9_mended_72 : decode cX9_mended 72 = .ok (.aaload, 1) := by decide +kernel
theorem dX9_mended_73 : decode cX9_mended 73 = .ok (.astore 8, 2) := by decide +kernel
theorem dX9_mended_75 : decode cX9_mended 75 = .ok (.aload 7, 2) := by decide +kernel
theorem dX9_mended_77 : decode cX9_mended 77 = .ok (.getfield 123, 3) := by decide +kernel
theorem dX9_mended_80 : decode cX9_mended 80 = .ok (.getfield 127, 3) := by decide +kernel
theorem dX9_mended_83 : decode cX9_mended 83 = .ok (.iload_n 1, 1) := by decide +kernel
theorem dX9_mended_84 : decode cX9_mended 84 = .ok (.if_icmp .eq 15, 3) := by decide +kernel
theorem dX9_mended_87 : decode cX9_mended 87 = .ok (.aload 8, 2) := by decide +kernel
theorem dX9_mended_89 : decode cX9_mended 89 = .ok (.getfield 123, 3) := by decide +kernel
theorem dX9_mended_92 : decode cX9_mended 92 = .ok (.getfield 127, 3) := by decide +kernel
theorem dX9_mended_95 : decode cX9_mended 95 = .ok (.iload_n 1, 1) := by decide +kernel
theorem dX9_mended_96 : decode cX9_mended 96 = .ok (.if_icmp .ne 104, 3) := by decide +kernel
theorem dX9_mended_99 : decode cX9_mended 99 = .ok (.aload 7, 2) := by decide +kernel
theorem dX9_mended_101 : decode cX9_mended 101 = .ok (.getfield 123, 3) := by decide +kernel
theorem dX9_mended_104 : decode cX9_mended 104 = .ok (.getfield 127, 3) := by decide +kernel
theorem dX9_mended_107 : decode cX9_mended 107 = .ok (.iload_n 1, 1) := by decide +kernel
theorem dX9_mended_108 : decode cX9_mended 108 = .ok (.if_icmp .ne 7, 3) := by decide +kernel
theorem dX9_mended_111 : decode cX9_mended 111 = .ok (.iconst 1, 1) := by decide +kernel
theorem dX9_mended_112 : decode cX9_mended 112 = .ok (.goto 4, 3) := by decide +kernel
theorem dX9_mended_115 : decode cX9_mended 115 = .ok (.iconst 0, 1) := by decide +kernel
theorem dX9_mended_116 : decode cX9_mended 116 = .ok (.istore 9, 2) := by decide +kernel
theorem dX9_mended_118 : decode cX9_mended 118 = .ok (.iload 9, 2) := by decide +kernel
theorem dX9_mended_120 : decode cX9_mended 120 = .ok (.ifCond .eq 17, 3) := by decide +kernel
theorem dX9_mended_123 : decode cX9_mended 123 = .ok (.aload 7, 2) := by decide +kernel
theorem dX9_mended_125 : decode cX9_mended 125 = .ok (.getfield 133, 3) := by decide +kernel
theorem dX9_mended_128 : decode cX9_mended 128 = .ok (.aload 8, 2) := by decide +kernel
theorem dX9_mended_130 : decode cX9_mended 130 = .ok (.getfield 133, 3) := by decide +kernel
theorem dX9_mended_133 : decode cX9_mended 133 = .ok (.isub, 1) := by decide +kernel
theorem dX9_mended_134 : decode cX9_mended 134 = .ok (.goto 14, 3) := by decide +kernel
theorem dX9_mended_137 : decode cX9_mended 137 = .ok (.aload 8, 2) := by decide +kernel
theorem dX9_mended_139 : decode cX9_mended 139 = .ok (.getfield 133, 3) := by decide +kernel
theorem dX9_mended_142 : decode cX9_mended 142 = .ok (.aload 7, 2) := by decide +kernel
theorem dX9_mended_144 : decode cX9_mended 144 = .ok (.getfield 133, 3) := by decide +kernel
theorem dX9_mended_147 : decode cX9_mended 147 = .ok (.isub, 1) := by decide +kernel
theorem dX9_mended_148 : decode cX9_mended 148 = .ok (.istore 10, 2) := by decide +kernel
theorem dX9_mended_150 : decode cX9_mended 150 = .ok (.iload 9, 2) := by decide +kernel
theorem dX9_mended_152 : decode cX9_mended 152 = .ok (.ifCond .eq 11, 3) := by decide +kernel
theorem dX9_mended_155 : decode cX9_mended 155 = .ok (.aload 8, 2) := by decide +kernel
theorem dX9_mended_157 : decode cX9_mended 157 = .ok (.getfield 123, 3) := by decide +kernel
theorem dX9_mended_160 : decode cX9_mended 160 = .ok (.goto 8, 3) := by decide +kernel
theorem dX9_mended_163 : decode cX9_mended 163 = .ok (.aload 7, 2) := by decide +kernel
theorem dX9_mended_165 : decode cX9_mended 165 = .ok (.getfield 123, 3) := by decide +kernel
theorem dX9_mended_168 : decode cX9_mended 168 = .ok (.astore 11, 2) := by decide +kernel
theorem dX9_mended_170 : decode cX9_mended 170 = .ok (.iload 4, 2) := by decide +kernel
theorem dX9_mended_172 : decode cX9_mended 172 = .ok (.iload 10, 2) := by decide +kernel
theorem dX9_mended_174 : decode cX9_mended 174 = .ok (.aload 11, 2) := by decide +kernel
theorem dX9_mended_176 : decode cX9_mended 176 = .ok (.getfield 81, 3) := by decide +kernel
theorem dX9_mended_179 : decode cX9_mended 179 = .ok (.iadd, 1) := by decide +kernel
theorem dX9_mended_180 : decode cX9_mended 180 = .ok (.invokestatic 250, 3) := by decide +kernel
theorem dX9_mended_183 : decode cX9_mended 183 = .ok (.istore 4, 2) := by decide +kernel
theorem dX9_mended_185 : decode cX9_mended 185 = .ok (.iload 5, 2) := by decide +kernel
theorem dX9_mended_187 : decode cX9_mended 187 = .ok (.iload 10, 2) := by decide +kernel
theorem dX9_mended_189 : decode cX9_mended 189 = .ok (.aload 11, 2) := by decide +kernel
theorem dX9_mended_191 : decode cX9_mended 191 = .ok (.getfield 84, 3) := by decide +kernel
theorem dX9_mended_194 : decode cX9_mended 194 = .ok (.iadd, 1) := by decide +kernel
theorem dX9_mended_195 : decode cX9_mended 195 = .ok (.invokestatic 255, 3) := by decide +kernel
theorem dX9_mended_198 : decode cX9_mended 198 = .ok (.istore 5, 2) := by decide +kernel
theorem dX9_mended_200 : decode cX9_mended 200 = .ok (.iinc 6 1, 3) := by decide +kernel
theorem dX9_mended_203 : decode cX9_mended 203 = .ok (.goto (-165), 3) := by decide +kernel
theorem dX9_mended_206 : decode cX9_mended 206 = .ok (.iload 4, 2) := by decide +kernel
theorem dX9_mended_208 : decode cX9_mended 208 = .ok (.iload 5, 2) := by decide +kernel
theorem dX9_mended_210 : decode cX9_mended 210 = .ok (.if_icmp .le 7, 3) := by decide +kernel
theorem dX9_mended_213 : decode cX9_mended 213 = .ok (.sipush (-10004), 3) := by decide +kernel
theorem dX9_mended_216 : decode cX9_mended 216 = .ok (.ireturn, 1) := by decide +kernel
theorem dX9_mended_217 : decode cX9_mended 217 = .ok (.iload_n 2, 1) := by decide +kernel
theorem dX9_mended_218 : decode cX9_mended 218 = .ok (.ifCond .ne 8, 3) := by decide +kernel
theorem dX9_mended_221 : decode cX9_mended 221 = .ok (.iload 4, 2) := by decide +kernel
theorem dX9_mended_223 : decode cX9_mended 223 = .ok (.goto 5, 3) := by decide +kernel
theorem dX9_mended_226 : decode cX9_mended 226 = .ok (.iload 5, 2) := by decide +kernel
theorem dX9_mended_228 : decode cX9_mended 228 = .ok (.ireturn, 1) := by decide +kernel
theorem dX9_moved_0 : decode cX9_moved 0 = .ok (.aload_n 0, 1) := by decide +kernel
theorem dX9_moved_1 : decode cX9_moved 1 = .ok (.iload_n 1, 1) := by decide +kernel
theorem dX9_moved_2 : decode cX9_moved 2 = .ok (.invokevirtual 77, 3) := by decide +kernel
theorem dX9_moved_5 : decode cX9_moved 5 = .ok (.ifnonnull 5, 3) := by decide +kernel
theorem dX9_moved_8 : decode cX9_moved 8 = .ok (.iconst (-1), 1) := by decide +kernel
theorem dX9_moved_9 : decode cX9_moved 9 = .ok (.ireturn, 1) := by decide +kernel
theorem dX9_moved_10 : decode cX9_moved 10 = .ok (.iconst 0, 1) := by decide +kernel
theorem dX9_moved_11 : decode cX9_moved 11 = .ok (.istore_n 2, 1) := by decide +kernel
theorem dX9_moved_12 : decode cX9_moved 12 = .ok (.iconst 0, 1) := by decide +kernel
theorem dX9_moved_13 : decode cX9_moved 13 = .ok (.istore_n 3, 1) := by decide +kernel
theorem dX9_moved_14 : decode cX9_moved 14 = .ok (.iconst 0, 1) := by decide +kernel
theorem dX9_moved_15 : decode cX9_moved 15 = .ok (.istore 4, 2) := by decide +kernel
theorem dX9_moved_17 : decode cX9_moved 17 = .ok (.iload 4, 2) := by decide +kernel
theorem dX9_moved_19 : decode cX9_moved 19 = .ok (.aload_n 0, 1) := by decide +kernel
theorem dX9_moved_20 : decode cX9_moved 20 = .ok (.getfield 247, 3) := by decide +kernel
theorem dX9_moved_23 : decode cX9_moved 23 = .ok (.if_icmp .ge 132, 3) := by decide +kernel
theorem dX9_moved_26 : decode cX9_moved 26 = .ok (.aload_n 0, 1) := by decide +kernel
theorem dX9_moved_27 : decode cX9_moved 27 = .ok (.getfield 17, 3) := by decide +kernel
theorem dX9_moved_30 : decode cX9_moved 30 = .ok (.aload_n 0, 1) := by decide +kernel
theorem dX9_moved_31 : decode cX9_moved 31 = .ok (.getfield 27, 3) := by decide +kernel
theorem dX9_moved_34 : decode cX9_moved 34 = .ok (.iload 4, 2) := by decide +kernel
theorem dX9_moved_36 : decode cX9_moved 36 = .ok (.iaload, 1) := by decide +kernel
theorem dX9_moved_37 : decode cX9_moved 37 = .ok (.aaload, 1) := by decide +kernel
theorem dX9_moved_38 : decode cX9_moved 38 = .ok (.astore 5, 2) := by decide +kernel
theorem dX9_moved_40 : decode cX9_moved 40 = .ok (.aload_n 0, 1) := by decide +kernel
theorem dX9_moved_41 : decode cX9_moved 41 = .ok (.getfield 17, 3) := by decide +kernel
theorem dX9_moved_44 : decode cX9_moved 44 = .ok (.aload_n 0, 1) := by decide +kernel
theorem dX9_moved_45 : decode cX9_moved 45 = .ok (.getfield 31, 3) := by decide +kernel
theorem dX9_moved_48 : decode cX9_moved 48 = .ok (.iload 4, 2) := by decide +kernel
theorem dX9_moved_50 : decode cX9_moved 50 = .ok (.iaload, 1) := by decide +kernel
theorem dX9_moved_51 : decode cX9_moved 51 = .ok (.aaload, 1) := by decide +kernel
theorem dX9_moved_52 : decode cX9_moved 52 = .ok (.astore 6, 2) := by decide +kernel
theorem dX9_moved_54 : decode cX9_moved 54 = .ok (.aload 5, 2) := by decide +kernel
theorem dX9_moved_56 : decode cX9_moved 56 = .ok (.getfield 123, 3) := by decide +kernel
theorem dX9_moved_59 : decode cX9_moved 59 = .ok (.getfield 127, 3) := by decide +kernel
theorem dX9_moved_62 : decode cX9_moved 62 = .ok (.iload_n 1, 1) := by decide +kernel
theorem dX9_moved_63 : decode cX9_moved 63 = .ok (.if_icmp .eq 15, 3) := by decide +kernel
theorem dX9_moved_66 : decode cX9_moved 66 = .ok (.aload 6, 2) := by decide +kernel
theorem dX9_moved_68 : decode cX9_moved 68 = .ok (.getfield 123, 3) := by decide +kernel
theorem dX9_moved_71 : decode cX9_moved 71 = .ok (.getfield 127, 3) := by decide +kernel
theorem dX9_moved_74 : decode cX9_moved 74 = .ok (.iload_n 1, 1) := by decide +kernel
theorem dX9_moved_75 : decode cX9_moved 75 = .ok (.if_icmp .ne 7, 3) := by decide +kernel
theorem dX9_moved_78 : decode cX9_moved 78 = .ok (.iconst 1, 1) := by decide +kernel
theorem dX9_moved_79 : decode cX9_moved 79 = .ok (.goto 4, 3) := by decide +kernel
theorem dX9_moved_82 : decode cX9_moved 82 = .ok (.iconst 0, 1) := by decide +kernel
theorem dX9_moved_83 : decode cX9_moved 83 = .ok (.istore 7, 2) := by decide +kernel
theorem dX9_moved_85 : decode cX9_moved 85 = .ok (.iload 7, 2) := by decide +kernel
theorem dX9_moved_87 : decode cX9_moved 87 = .ok (.ifCond .eq 62, 3) := by decide +kernel
theorem dX9_moved_90 : decode cX9_moved 90 = .ok (.aload 5, 2) := by decide +kernel
theorem dX9_moved_92 : decode cX9_moved 92 = .ok (.instanceof 105, 3) := by decide +kernel
theorem dX9_moved_95 : decode cX9_moved 95 = .ok (.ifCond .eq 54, 3) := by decide +kernel
theorem dX9_moved_98 : decode cX9_moved 98 = .ok (.aload 5, 2) := by decide +kernel
theorem dX9_moved_100 : decode cX9_moved 100 = .ok (.checkcast 105, 3) := by decide +kernel
theorem dX9_moved_103 : decode cX9_moved 103 = .ok (.astore 8, 2) := by decide +kernel
theorem dX9_moved_105 : decode cX9_moved 105 = .ok (.aload 6, 2) := by decide +kernel
theorem dX9_moved_107 : decode cX9_moved 107 = .ok (.instanceof 105, 3) := by decide +kernel
theorem dX9_moved_110 : decode cX9_moved 110 = .ok (.ifCond .eq 39, 3) := by decide +kernel
theorem dX9_moved_113 : decode cX9_moved 113 = .ok (.aload 6, 2) := by decide +kernel
theorem dX9_moved_115 : decode cX9_moved 115 = .ok (.checkcast 105, 3) := by decide +kernel
theorem dX9_moved_118 : decode cX9_moved 118 = .ok (.astore 9, 2) := by decide +kernel
theorem dX9_moved_120 : decode cX9_moved 120 = .ok (.iinc 2 1, 3) := by decide +kernel
theorem dX9_moved_123 : decode cX9_moved 123 = .ok (.iload_n 3, 1) := by decide +kernel
theorem dX9_moved_124 : decode cX9_moved 124 = .ok (.aload_n 0, 1) := by decide +kernel
theorem dX9_moved_125 : decode cX9_moved 125 = .ok (.getfield 49, 3) := by decide +kernel
theorem dX9_moved_128 : decode cX9_moved 128 = .ok (.aload 8, 2) := by decide +kernel
theorem dX9_moved_130 : decode cX9_moved 130 = .ok (.aload 9, 2) := by decide +kernel
theorem dX9_moved_132 : decode cX9_moved 132 = .ok (.aload_n 0, 1) := by decide +kernel
theorem dX9_moved_133 : decode cX9_moved 133 = .ok (.getfield 60, 3) := by decide +kernel
theorem dX9_moved_136 : decode cX9_moved 136 = .ok (.invokevirtual 165, 3) := by decide +kernel
theorem dX9_moved_139 : decode cX9_moved 139 = .ok (.ifCond .eq 7, 3) := by decide +kernel
theorem dX9_moved_142 : decode cX9_moved 142 = .ok (.iconst 0, 1) := by decide +kernel
theorem dX9_moved_143 : decode cX9_moved 143 = .ok (.goto 4, 3) := by decide +kernel
theorem dX9_moved_146 : decode cX9_moved 146 = .ok (.iconst 1, 1) := by decide +kernel
theorem dX9_moved_147 : decode cX9_moved 147 = .ok (.iadd, 1) := by decide +kernel
theorem dX9_moved_148 : decode cX9_moved 148 = .ok (.istore_n 3, 1) := by decide +kernel
theorem dX9_moved_149 : decode cX9_moved 149 = .ok (.iinc 4 1, 3) := by decide +kernel
theorem dX9_moved_152 : decode cX9_moved 152 = .ok (.goto (-135), 3) := by decide +kernel
theorem dX9_moved_155 : decode cX9_moved 155 = .ok (.iload_n 2, 1) := by decide +kernel
theorem dX9_moved_156 : decode cX9_moved 156 = .ok (.iconst 2, 1) := by decide +kernel
theorem dX9_moved_157 : decode cX9_moved 157 = .ok (.if_icmp .ge 6, 3) := by decide +kernel
theorem dX9_moved_160 : decode cX9_moved 160 = .ok (.bipush (-4), 2) := by decide +kernel
theorem dX9_moved_162 : decode cX9_moved 162 = .ok (.ireturn, 1) := by decide +kernel
theorem dX9_moved_163 : decode cX9_moved 163 = .ok (.iconst 2, 1) := by decide +kernel
theorem dX9_moved_164 : decode cX9_moved 164 = .ok (.iload_n 3, 1) := by decide +kernel
theorem dX9_moved_165 : decode cX9_moved 165 = .ok (.imul, 1) := by decide +kernel
theorem dX9_moved_166 : decode cX9_moved 166 = .ok (.iload_n 2, 1) := by decide +kernel
theorem dX9_moved_167 : decode cX9_moved 167 = .ok (.if_icmp .le 7, 3) := by decide +kernel
theorem dX9_moved_170 : decode cX9_moved 170 = .ok (.iconst 1, 1) := by decide +kernel
theorem dX9_moved_171 : decode cX9_moved 171 = .ok (.goto 4, 3) := by decide +kernel
theorem dX9_moved_174 : decode cX9_moved 174 = .ok (.iconst 0, 1) := by decide +kernel
theorem dX9_moved_175 : decode cX9_moved 175 = .ok (.ireturn, 1) := by decide +kernel
theorem dX9_count_0 : decode cX9_count 0 = .ok (.iload_n 1, 1) := by decide +kernel
theorem dX9_count_1 : decode cX9_count 1 = .ok (.tableswitch 60 0 4 #[35, 40, 45, 50, 55], 35) := by decide +kernel
theorem dX9_count_36 : decode cX9_count 36 = .ok (.aload_n 0, 1) := by decide +kernel
theorem dX9_count_37 : decode cX9_count 37 = .ok (.getfield 71, 3) := by decide +kernel
theorem dX9_count_40 : decode cX9_count 40 = .ok (.ireturn, 1) := by decide +kernel
theorem dX9_count_41 : decode cX9_count 41 = .ok (.aload_n 0, 1) := by decide +kernel
theorem dX9_count_42 : decode cX9_count 42 = .ok (.getfield 91, 3) := by decide +kernel
theorem dX9_count_45 : decode cX9_count 45 = .ok (.ireturn, 1) := by decide +kernel
theorem dX9_count_46 : decode cX9_count 46 = .ok (.aload_n 0, 1) := by decide +kernel
theorem dX9_count_47 : decode cX9_count 47 = .ok (.getfield 219, 3) := by decide +kernel
theorem dX9_count_50 : decode cX9_count 50 = .ok (.ireturn, 1) := by decide +kernel
theorem dX9_count_51 : decode cX9_count 51 = .ok (.aload_n 0, 1) := by decide +kernel
theorem dX9_count_52 : decode cX9_count 52 = .ok (.getfield 247, 3) := by decide +kernel
theorem dX9_count_55 : decode cX9_count 55 = .ok (.ireturn, 1) := by decide +kernel
theorem dX9_count_56 : decode cX9_count 56 = .ok (.aload_n 0, 1) := by decide +kernel
theorem dX9_count_57 : decode cX9_count 57 = .ok (.getfield 240, 3) := by decide +kernel
theorem dX9_count_60 : decode cX9_count 60 = .ok (.ireturn, 1) := by decide +kernel
theorem dX9_count_61 : decode cX9_count 61 = .ok (.iconst (-1), 1) := by decide +kernel
theorem dX9_count_62 : decode cX9_count 62 = .ok (.ireturn, 1) := by decide +kernel
theorem dX9_sheet_0 : decode cX9_sheet 0 = .ok (.iload_n 1, 1) := by decide +kernel
theorem dX9_sheet_1 : decode cX9_sheet 1 = .ok (.invokestatic 258, 3) := by decide +kernel
theorem dX9_sheet_4 : decode cX9_sheet 4 = .ok (.ifCond .eq 16, 3) := by decide +kernel
theorem dX9_sheet_7 : decode cX9_sheet 7 = .ok (.iload_n 2, 1) := by decide +kernel
theorem dX9_sheet_8 : decode cX9_sheet 8 = .ok (.invokestatic 261, 3) := by decide +kernel
theorem dX9_sheet_11 : decode cX9_sheet 11 = .ok (.ifCond .eq 9, 3) := by decide +kernel
theorem dX9_sheet_14 : decode cX9_sheet 14 = .ok (.iload_n 3, 1) := by decide +kernel
theorem dX9_sheet_15 : decode cX9_sheet 15 = .ok (.bipush 36, 2) := by decide +kernel
theorem dX9_sheet_17 : decode cX9_sheet 17 = .ok (.if_icmp .le 5, 3) := by decide +kernel
theorem dX9_sheet_20 : decode cX9_sheet 20 = .ok (.iconst (-1), 1) := by decide +kernel
theorem dX9_sheet_21 : decode cX9_sheet 21 = .ok (.ireturn, 1) := by decide +kernel
theorem dX9_sheet_22 : decode cX9_sheet 22 = .ok (.iload_n 3, 1) := by decide +kernel
theorem dX9_sheet_23 : decode cX9_sheet 23 = .ok (.ifCond .ge 6, 3) := by decide +kernel
theorem dX9_sheet_26 : decode cX9_sheet 26 = .ok (.bipush (-14), 2) := by decide +kernel
theorem dX9_sheet_28 : decode cX9_sheet 28 = .ok (.ireturn, 1) := by decide +kernel
theorem dX9_sheet_29 : decode cX9_sheet 29 = .ok (.aload_n 0, 1) := by decide +kernel
theorem dX9_sheet_30 : decode cX9_sheet 30 = .ok (.getfield 42, 3) := by decide +kernel
theorem dX9_sheet_33 : decode cX9_sheet 33 = .ok (.iload_n 1, 1) := by decide +kernel
theorem dX9_sheet_34 : decode cX9_sheet 34 = .ok (.new 40, 3) := by decide +kernel
theorem dX9_sheet_37 : decode cX9_sheet 37 = .ok (.dup, 1) := by decide +kernel
theorem dX9_sheet_38 : decode cX9_sheet 38 = .ok (.iload_n 2, 1) := by decide +kernel
theorem dX9_sheet_39 : decode cX9_sheet 39 = .ok (.iload_n 3, 1) := by decide +kernel
theorem dX9_sheet_40 : decode cX9_sheet 40 = .ok (.invokespecial 264, 3) := by decide +kernel
theorem dX9_sheet_43 : decode cX9_sheet 43 = .ok (.aastore, 1) := by decide +kernel
theorem dX9_sheet_44 : decode cX9_sheet 44 = .ok (.iload_n 3, 1) := by decide +kernel
theorem dX9_sheet_45 : decode cX9_sheet 45 = .ok (.ireturn, 1) := by decide +kernel
theorem dX9_drop_0 : decode cX9_drop 0 = .ok (.iload_n 1, 1) := by decide +kernel
theorem dX9_drop_1 : decode cX9_drop 1 = .ok (.invokestatic 258, 3) := by decide +kernel
theorem dX9_drop_4 : decode cX9_drop 4 = .ok (.ifCond .ne 5, 3) := by decide +kernel
theorem dX9_drop_7 : decode cX9_drop 7 = .ok (.iconst (-1), 1) := by decide +kernel
theorem dX9_drop_8 : decode cX9_drop 8 = .ok (.ireturn, 1) := by decide +kernel
theorem dX9_drop_9 : decode cX9_drop 9 = .ok (.aload_n 0, 1) := by decide +kernel
theorem dX9_drop_10 : decode cX9_drop 10 = .ok (.getfield 42, 3) := by decide +kernel
theorem dX9_drop_13 : decode cX9_drop 13 = .ok (.iload_n 1, 1) := by decide +kernel
theorem dX9_drop_14 : decode cX9_drop 14 = .ok (.aaload, 1) := by decide +kernel
theorem dX9_drop_15 : decode cX9_drop 15 = .ok (.astore_n 2, 1) := by decide +kernel
theorem dX9_drop_16 : decode cX9_drop 16 = .ok (.aload_n 2, 1) := by decide +kernel
theorem dX9_drop_17 : decode cX9_drop 17 = .ok (.ifnonnull 6, 3) := by decide +kernel
theorem dX9_drop_20 : decode cX9_drop 20 = .ok (.bipush (-11), 2) := by decide +kernel
theorem dX9_drop_22 : decode cX9_drop 22 = .ok (.ireturn, 1) := by decide +kernel
theorem dX9_drop_23 : decode cX9_drop 23 = .ok (.aload_n 0, 1) := by decide +kernel
theorem dX9_drop_24 : decode cX9_drop 24 = .ok (.getfield 42, 3) := by decide +kernel
theorem dX9_drop_27 : decode cX9_drop 27 = .ok (.iload_n 1, 1) := by decide +kernel
theorem dX9_drop_28 : decode cX9_drop 28 = .ok (.aconst_null, 1) := by decide +kernel
theorem dX9_drop_29 : decode cX9_drop 29 = .ok (.aastore, 1) := by decide +kernel
theorem dX9_drop_30 : decode cX9_drop 30 = .ok (.aload_n 2, 1) := by decide +kernel
theorem dX9_drop_31 : decode cX9_drop 31 = .ok (.getfield 267, 3) := by decide +kernel
theorem dX9_drop_34 : decode cX9_drop 34 = .ok (.arraylength, 1) := by decide +kernel
theorem dX9_drop_35 : decode cX9_drop 35 = .ok (.ireturn, 1) := by decide +kernel
theorem dX9_item_0 : decode cX9_item 0 = .ok (.iload_n 1, 1) := by decide +kernel
theorem dX9_item_1 : decode cX9_item 1 = .ok (.invokestatic 258, 3) := by decide +kernel
theorem dX9_item_4 : decode cX9_item 4 = .ok (.ifCond .eq 10, 3) := by decide +kernel
theorem dX9_item_7 : decode cX9_item 7 = .ok (.iload_n 2, 1) := by decide +kernel
theorem dX9_item_8 : decode cX9_item 8 = .ok (.invokestatic 261, 3) := by decide +kernel
theorem dX9_item_11 : decode cX9_item 11 = .ok (.ifCond .ne 5, 3) := by decide +kernel
theorem dX9_item_14 : decode cX9_item 14 = .ok (.iconst (-1), 1) := by decide +kernel
theorem dX9_item_15 : decode cX9_item 15 = .ok (.ireturn, 1) := by decide +kernel
theorem dX9_item_16 : decode cX9_item 16 = .ok (.aload_n 0, 1) := by decide +kernel
theorem dX9_item_17 : decode cX9_item 17 = .ok (.getfield 42, 3) := by decide +kernel
theorem dX9_item_20 : decode cX9_item 20 = .ok (.iload_n 1, 1) := by decide +kernel
theorem dX9_item_21 : decode cX9_item 21 = .ok (.aaload, 1) := by decide +kernel
theorem dX9_item_22 : decode cX9_item 22 = .ok (.astore 5, 2) := by decide +kernel
theorem dX9_item_24 : decode cX9_item 24 = .ok (.aload 5, 2) := by decide +kernel
theorem dX9_item_26 : decode cX9_item 26 = .ok (.ifnonnull 6, 3) := by decide +kernel
theorem dX9_item_29 : decode cX9_item 29 = .ok (.bipush (-11), 2) := by decide +kernel
theorem dX9_item_31 : decode cX9_item 31 = .ok (.ireturn, 1) := by decide +kernel
theorem dX9_item_32 : decode cX9_item 32 = .ok (.aload 5, 2) := by decide +kernel
theorem dX9_item_34 : decode cX9_item 34 = .ok (.getfield 270, 3) := by decide +kernel
theorem dX9_item_37 : decode cX9_item 37 = .ok (.iload_n 2, 1) := by decide +kernel
theorem dX9_item_38 : decode cX9_item 38 = .ok (.if_icmp .eq 6, 3) := by decide +kernel
theorem dX9_item_41 : decode cX9_item 41 = .ok (.bipush (-12), 2) := by decide +kernel
theorem dX9_item_43 : decode cX9_item 43 = .ok (.ireturn, 1) := by decide +kernel
theorem dX9_item_44 : decode cX9_item 44 = .ok (.aload 5, 2) := by decide +kernel
theorem dX9_item_46 : decode cX9_item 46 = .ok (.iload_n 3, 1) := by decide +kernel
theorem dX9_item_47 : decode cX9_item 47 = .ok (.iconst 1, 1) := by decide +kernel
theorem dX9_item_48 : decode cX9_item 48 = .ok (.invokevirtual 273, 3) := by decide +kernel
theorem dX9_item_51 : decode cX9_item 51 = .ok (.ifCond .ne 6, 3) := by decide +kernel
theorem dX9_item_54 : decode cX9_item 54 = .ok (.bipush (-13), 2) := by decide +kernel
theorem dX9_item_56 : decode cX9_item 56 = .ok (.ireturn, 1) := by decide +kernel
theorem dX9_item_57 : decode cX9_item 57 = .ok (.aload 5, 2) := by decide +kernel
theorem dX9_item_59 : decode cX9_item 59 = .ok (.getfield 267, 3) := by decide +kernel
theorem dX9_item_62 : decode cX9_item 62 = .ok (.iload_n 3, 1) := by decide +kernel
theorem dX9_item_63 : decode cX9_item 63 = .ok (.iload_n 2, 1) := by decide +kernel
theorem dX9_item_64 : decode cX9_item 64 = .ok (.ifCond .ne 9, 3) := by decide +kernel
theorem dX9_item_67 : decode cX9_item 67 = .ok (.iload 4, 2) := by decide +kernel
theorem dX9_item_69 : decode cX9_item 69 = .ok (.i2s, 1) := by decide +kernel
theorem dX9_item_70 : decode cX9_item 70 = .ok (.goto 5, 3) := by decide +kernel
theorem dX9_item_73 : decode cX9_item 73 = .ok (.iload 4, 2) := by decide +kernel
theorem dX9_item_75 : decode cX9_item 75 = .ok (.iastore, 1) := by decide +kernel
theorem dX9_item_76 : decode cX9_item 76 = .ok (.iconst 1, 1) := by decide +kernel
theorem dX9_item_77 : decode cX9_item 77 = .ok (.ireturn, 1) := by decide +kernel
theorem dX9_arcs_0 : decode cX9_arcs 0 = .ok (.iload_n 1, 1) := by decide +kernel
theorem dX9_arcs_1 : decode cX9_arcs 1 = .ok (.invokestatic 258, 3) := by decide +kernel
theorem dX9_arcs_4 : decode cX9_arcs 4 = .ok (.ifCond .eq 21, 3) := by decide +kernel
theorem dX9_arcs_7 : decode cX9_arcs 7 = .ok (.iload_n 2, 1) := by decide +kernel
theorem dX9_arcs_8 : decode cX9_arcs 8 = .ok (.invokestatic 261, 3) := by decide +kernel
theorem dX9_arcs_11 : decode cX9_arcs 11 = .ok (.ifCond .eq 14, 3) := by decide +kernel
theorem dX9_arcs_14 : decode cX9_arcs 14 = .ok (.iload 4, 2) := by decide +kernel
theorem dX9_arcs_16 : decode cX9_arcs 16 = .ok (.iconst 0, 1) := by decide +kernel
theorem dX9_arcs_17 : decode cX9_arcs 17 = .ok (.bipush 6, 2) := by decide +kernel
theorem dX9_arcs_19 : decode cX9_arcs 19 = .ok (.invokestatic 67, 3) := by decide +kernel
theorem dX9_arcs_22 : decode cX9_arcs 22 = .ok (.ifCond .ne 5, 3) := by decide +kernel
theorem dX9_arcs_25 : decode cX9_arcs 25 = .ok (.iconst (-1), 1) := by decide +kernel
theorem dX9_arcs_26 : decode cX9_arcs 26 = .ok (.ireturn, 1) := by decide +kernel
theorem dX9_arcs_27 : decode cX9_arcs 27 = .ok (.aload_n 0, 1) := by decide +kernel
theorem dX9_arcs_28 : decode cX9_arcs 28 = .ok (.getfield 42, 3) := by decide +kernel
theorem dX9_arcs_31 : decode cX9_arcs 31 = .ok (.iload_n 1, 1) := by decide +kernel
theorem dX9_arcs_32 : decode cX9_arcs 32 = .ok (.aaload, 1) := by decide +kernel
theorem dX9_arcs_33 : decode cX9_arcs 33 = .ok (.astore 5, 2) := by decide +kernel
theorem dX9_arcs_35 : decode cX9_arcs 35 = .ok (.aload 5, 2) := by decide +kernel
theorem dX9_arcs_37 : decode cX9_arcs 37 = .ok (.ifnonnull 6, 3) := by decide +kernel
theorem dX9_arcs_40 : decode cX9_arcs 40 = .ok (.bipush (-11), 2) := by decide +kernel
theorem dX9_arcs_42 : decode cX9_arcs 42 = .ok (.ireturn, 1) := by decide +kernel
theorem dX9_arcs_43 : decode cX9_arcs 43 = .ok (.aload 5, 2) := by decide +kernel
theorem dX9_arcs_45 : decode cX9_arcs 45 = .ok (.getfield 270, 3) := by decide +kernel
theorem dX9_arcs_48 : decode cX9_arcs 48 = .ok (.iload_n 2, 1) := by decide +kernel
theorem dX9_arcs_49 : decode cX9_arcs 49 = .ok (.if_icmp .eq 6, 3) := by decide +kernel
theorem dX9_arcs_52 : decode cX9_arcs 52 = .ok (.bipush (-12), 2) := by decide +kernel
theorem dX9_arcs_54 : decode cX9_arcs 54 = .ok (.ireturn, 1) := by decide +kernel
theorem dX9_arcs_55 : decode cX9_arcs 55 = .ok (.aload 5, 2) := by decide +kernel
theorem dX9_arcs_57 : decode cX9_arcs 57 = .ok (.iload_n 3, 1) := by decide +kernel
theorem dX9_arcs_58 : decode cX9_arcs 58 = .ok (.bipush 6, 2) := by decide +kernel
theorem dX9_arcs_60 : decode cX9_arcs 60 = .ok (.iload 4, 2) := by decide +kernel
theorem dX9_arcs_62 : decode cX9_arcs 62 = .ok (.imul, 1) := by decide +kernel
theorem dX9_arcs_63 : decode cX9_arcs 63 = .ok (.invokevirtual 273, 3) := by decide +kernel
theorem dX9_arcs_66 : decode cX9_arcs 66 = .ok (.ifCond .ne 6, 3) := by decide +kernel
theorem dX9_arcs_69 : decode cX9_arcs 69 = .ok (.bipush (-13), 2) := by decide +kernel
theorem dX9_arcs_71 : decode cX9_arcs 71 = .ok (.ireturn, 1) := by decide +kernel
theorem dX9_arcs_72 : decode cX9_arcs 72 = .ok (.aload_n 0, 1) := by decide +kernel
theorem dX9_arcs_73 : decode cX9_arcs 73 = .ok (.aload 5, 2) := by decide +kernel
theorem dX9_arcs_75 : decode cX9_arcs 75 = .ok (.getfield 267, 3) := by decide +kernel
theorem dX9_arcs_78 : decode cX9_arcs 78 = .ok (.iload_n 3, 1) := by decide +kernel
theorem dX9_arcs_79 : decode cX9_arcs 79 = .ok (.iload 4, 2) := by decide +kernel
theorem dX9_arcs_81 : decode cX9_arcs 81 = .ok (.invokevirtual 276, 3) := by decide +kernel
theorem dX9_arcs_84 : decode cX9_arcs 84 = .ok (.ireturn, 1) := by decide +kernel
theorem dX9_isWithin_0 : decode cX9_isWithin 0 = .ok (.iload_n 0, 1) := by decide +kernel
theorem dX9_isWithin_1 : decode cX9_isWithin 1 = .ok (.iload_n 1, 1) := by decide +kernel
theorem dX9_isWithin_2 : decode cX9_isWithin 2 = .ok (.if_icmp .lt 12, 3) := by decide +kernel
theorem dX9_isWithin_5 : decode cX9_isWithin 5 = .ok (.iload_n 0, 1) := by decide +kernel
theorem dX9_isWithin_6 : decode cX9_isWithin 6 = .ok (.iload_n 2, 1) := by decide +kernel
theorem dX9_isWithin_7 : decode cX9_isWithin 7 = .ok (.if_icmp .gt 7, 3) := by decide +kernel
theorem dX9_isWithin_10 : decode cX9_isWithin 10 = .ok (.iconst 1, 1) := by decide +kernel
theorem dX9_isWithin_11 : decode cX9_isWithin 11 = .ok (.goto 4, 3) := by decide +kernel
theorem dX9_isWithin_14 : decode cX9_isWithin 14 = .ok (.iconst 0, 1) := by decide +kernel
theorem dX9_isWithin_15 : decode cX9_isWithin 15 = .ok (.ireturn, 1) := by decide +kernel
theorem dX9_isNight_0 : decode cX9_isNight 0 = .ok (.iload_n 0, 1) := by decide +kernel
theorem dX9_isNight_1 : decode cX9_isNight 1 = .ok (.iconst 0, 1) := by decide +kernel
theorem dX9_isNight_2 : decode cX9_isNight 2 = .ok (.sipush 399, 3) := by decide +kernel
theorem dX9_isNight_5 : decode cX9_isNight 5 = .ok (.invokestatic 67, 3) := by decide +kernel
theorem dX9_isNight_8 : decode cX9_isNight 8 = .ok (.ireturn, 1) := by decide +kernel
theorem dX9_isInSky_0 : decode cX9_isInSky 0 = .ok (.iload_n 0, 1) := by decide +kernel
theorem dX9_isInSky_1 : decode cX9_isInSky 1 = .ok (.invokestatic 178, 3) := by decide +kernel
theorem dX9_isInSky_4 : decode cX9_isInSky 4 = .ok (.ifCond .eq 39, 3) := by decide +kernel
theorem dX9_isInSky_7 : decode cX9_isInSky 7 = .ok (.iload_n 1, 1) := by decide +kernel
theorem dX9_isInSky_8 : decode cX9_isInSky 8 = .ok (.iconst 0, 1) := by decide +kernel
theorem dX9_isInSky_9 : decode cX9_isInSky 9 = .ok (.sipush 1439, 3) := by decide +kernel
theorem dX9_isInSky_12 : decode cX9_isInSky 12 = .ok (.invokestatic 67, 3) := by decide +kernel
theorem dX9_isInSky_15 : decode cX9_isInSky 15 = .ok (.ifCond .eq 28, 3) := by decide +kernel
theorem dX9_isInSky_18 : decode cX9_isInSky 18 = .ok (.iload_n 2, 1) := by decide +kernel
theorem dX9_isInSky_19 : decode cX9_isInSky 19 = .ok (.iconst 0, 1) := by decide +kernel
theorem dX9_isInSky_20 : decode cX9_isInSky 20 = .ok (.sipush 359, 3) := by decide +kernel
theorem dX9_isInSky_23 : decode cX9_isInSky 23 = .ok (.invokestatic 67, 3) := by decide +kernel
theorem dX9_isInSky_26 : decode cX9_isInSky 26 = .ok (.ifCond .eq 17, 3) := by decide +kernel
theorem dX9_isInSky_29 : decode cX9_isInSky 29 = .ok (.iload_n 3, 1) := by decide +kernel
theorem dX9_isInSky_30 : decode cX9_isInSky 30 = .ok (.iconst 2, 1) := by decide +kernel
theorem dX9_isInSky_31 : decode cX9_isInSky 31 = .ok (.bipush 88, 2) := by decide +kernel
theorem dX9_isInSky_33 : decode cX9_isInSky 33 = .ok (.invokestatic 67, 3) := by decide +kernel
theorem dX9_isInSky_36 : decode cX9_isInSky 36 = .ok (.ifCond .eq 7, 3) := by decide +kernel
theorem dX9_isInSky_39 : decode cX9_isInSky 39 = .ok (.iconst 1, 1) := by decide +kernel
theorem dX9_isInSky_40 : decode cX9_isInSky 40 = .ok (.goto 4, 3) := by decide +kernel
theorem dX9_isInSky_43 : decode cX9_isInSky 43 = .ok (.iconst 0, 1) := by decide +kernel
theorem dX9_isInSky_44 : decode cX9_isInSky 44 = .ok (.ireturn, 1) := by decide +kernel
theorem dX9_isColour_0 : decode cX9_isColour 0 = .ok (.iload_n 0, 1) := by decide +kernel
theorem dX9_isColour_1 : decode cX9_isColour 1 = .ok (.iconst 0, 1) := by decide +kernel
theorem dX9_isColour_2 : decode cX9_isColour 2 = .ok (.iconst 4, 1) := by decide +kernel
theorem dX9_isColour_3 : decode cX9_isColour 3 = .ok (.invokestatic 67, 3) := by decide +kernel
theorem dX9_isColour_6 : decode cX9_isColour 6 = .ok (.ireturn, 1) := by decide +kernel
theorem dX9_isSheet_0 : decode cX9_isSheet 0 = .ok (.iload_n 0, 1) := by decide +kernel
theorem dX9_isSheet_1 : decode cX9_isSheet 1 = .ok (.iconst 0, 1) := by decide +kernel
theorem dX9_isSheet_2 : decode cX9_isSheet 2 = .ok (.iconst 3, 1) := by decide +kernel
theorem dX9_isSheet_3 : decode cX9_isSheet 3 = .ok (.invokestatic 67, 3) := by decide +kernel
theorem dX9_isSheet_6 : decode cX9_isSheet 6 = .ok (.ireturn, 1) := by decide +kernel
theorem dX9_isLane_0 : decode cX9_isLane 0 = .ok (.iload_n 0, 1) := by decide +kernel
theorem dX9_isLane_1 : decode cX9_isLane 1 = .ok (.iconst 0, 1) := by decide +kernel
theorem dX9_isLane_2 : decode cX9_isLane 2 = .ok (.iconst 2, 1) := by decide +kernel
theorem dX9_isLane_3 : decode cX9_isLane 3 = .ok (.invokestatic 67, 3) := by decide +kernel
theorem dX9_isLane_6 : decode cX9_isLane 6 = .ok (.ireturn, 1) := by decide +kernel
theorem dX9_sine_0 : decode cX9_sine 0 = .ok (.iload_n 0, 1) := by decide +kernel
theorem dX9_sine_1 : decode cX9_sine 1 = .ok (.sipush 360, 3) := by decide +kernel
theorem dX9_sine_4 : decode cX9_sine 4 = .ok (.invokestatic 280, 3) := by decide +kernel
theorem dX9_sine_7 : decode cX9_sine 7 = .ok (.istore_n 1, 1) := by decide +kernel
theorem dX9_sine_8 : decode cX9_sine 8 = .ok (.iload_n 1, 1) := by decide +kernel
theorem dX9_sine_9 : decode cX9_sine 9 = .ok (.sipush 180, 3) := by decide +kernel
theorem dX9_sine_12 : decode cX9_sine 12 = .ok (.if_icmp .lt 11, 3) := by decide +kernel
theorem dX9_sine_15 : decode cX9_sine 15 = .ok (.iload_n 1, 1) := by decide +kernel
theorem dX9_sine_16 : decode cX9_sine 16 = .ok (.sipush 180, 3) := by decide +kernel
theorem dX9_sine_19 : decode cX9_sine 19 = .ok (.isub, 1) := by decide +kernel
theorem dX9_sine_20 : decode cX9_sine 20 = .ok (.goto 4, 3) := by decide +kernel
theorem dX9_sine_23 : decode cX9_sine 23 = .ok (.iload_n 1, 1) := by decide +kernel
theorem dX9_sine_24 : decode cX9_sine 24 = .ok (.istore_n 2, 1) := by decide +kernel
theorem dX9_sine_25 : decode cX9_sine 25 = .ok (.getstatic 283, 3) := by decide +kernel
theorem dX9_sine_28 : decode cX9_sine 28 = .ok (.iload_n 2, 1) := by decide +kernel
theorem dX9_sine_29 : decode cX9_sine 29 = .ok (.bipush 90, 2) := by decide +kernel
theorem dX9_sine_31 : decode cX9_sine 31 = .ok (.if_icmp .le 11, 3) := by decide +kernel
theorem dX9_sine_34 : decode cX9_sine 34 = .ok (.sipush 180, 3) := by decide +kernel
theorem dX9_sine_37 : decode cX9_sine 37 = .ok (.iload_n 2, 1) := by decide +kernel
theorem dX9_sine_38 : decode cX9_sine 38 = .ok (.isub, 1) := by decide +kernel
theorem dX9_sine_39 : decode cX9_sine 39 = .ok (.goto 4, 3) := by decide +kernel
theorem dX9_sine_42 : decode cX9_sine 42 = .ok (.iload_n 2, 1) := by decide +kernel
theorem dX9_sine_43 : decode cX9_sine 43 = .ok (.iaload, 1) := by decide +kernel
theorem dX9_sine_44 : decode cX9_sine 44 = .ok (.istore_n 3, 1) := by decide +kernel
theorem dX9_sine_45 : decode cX9_sine 45 = .ok (.iload_n 1, 1) := by decide +kernel
theorem dX9_sine_46 : decode cX9_sine 46 = .ok (.sipush 180, 3) := by decide +kernel
theorem dX9_sine_49 : decode cX9_sine 49 = .ok (.if_icmp .lt 8, 3) := by decide +kernel
theorem dX9_sine_52 : decode cX9_sine 52 = .ok (.iload_n 3, 1) := by decide +kernel
theorem dX9_sine_53 : decode cX9_sine 53 = .ok (.ineg, 1) := by decide +kernel
theorem dX9_sine_54 : decode cX9_sine 54 = .ok (.goto 4, 3) := by decide +kernel
theorem dX9_sine_57 : decode cX9_sine 57 = .ok (.iload_n 3, 1) := by decide +kernel
theorem dX9_sine_58 : decode cX9_sine 58 = .ok (.ireturn, 1) := by decide +kernel
theorem dX9_cosine_0 : decode cX9_cosine 0 = .ok (.iload_n 0, 1) := by decide +kernel
theorem dX9_cosine_1 : decode cX9_cosine 1 = .ok (.bipush 90, 2) := by decide +kernel
theorem dX9_cosine_3 : decode cX9_cosine 3 = .ok (.iadd, 1) := by decide +kernel
theorem dX9_cosine_4 : decode cX9_cosine 4 = .ok (.invokestatic 154, 3) := by decide +kernel
theorem dX9_cosine_7 : decode cX9_cosine 7 = .ok (.ireturn, 1) := by decide +kernel
theorem dX9_stationAt_0 : decode cX9_stationAt 0 = .ok (.iload_n 1, 1) := by decide +kernel
theorem dX9_stationAt_1 : decode cX9_stationAt 1 = .ok (.iconst 0, 1) := by decide +kernel
theorem dX9_stationAt_2 : decode cX9_stationAt 2 = .ok (.aload_n 0, 1) := by decide +kernel
theorem dX9_stationAt_3 : decode cX9_stationAt 3 = .ok (.getfield 71, 3) := by decide +kernel
theorem dX9_stationAt_6 : decode cX9_stationAt 6 = .ok (.iconst 1, 1) := by decide +kernel
theorem dX9_stationAt_7 : decode cX9_stationAt 7 = .ok (.isub, 1) := by decide +kernel
theorem dX9_stationAt_8 : decode cX9_stationAt 8 = .ok (.invokestatic 67, 3) := by decide +kernel
theorem dX9_stationAt_11 : decode cX9_stationAt 11 = .ok (.ifCond .eq 12, 3) := by decide +kernel
theorem dX9_stationAt_14 : decode cX9_stationAt 14 = .ok (.aload_n 0, 1) := by decide +kernel
theorem dX9_stationAt_15 : decode cX9_stationAt 15 = .ok (.getfield 11, 3) := by decide +kernel
theorem dX9_stationAt_18 : decode cX9_stationAt 18 = .ok (.iload_n 1, 1) := by decide +kernel
theorem dX9_stationAt_19 : decode cX9_stationAt 19 = .ok (.aaload, 1) := by decide +kernel
theorem dX9_stationAt_20 : decode cX9_stationAt 20 = .ok (.goto 4, 3) := by decide +kernel
theorem dX9_stationAt_23 : decode cX9_stationAt 23 = .ok (.aconst_null, 1) := by decide +kernel
theorem dX9_stationAt_24 : decode cX9_stationAt 24 = .ok (.areturn, 1) := by decide +kernel
theorem dX9_sightingAt_0 : decode cX9_sightingAt 0 = .ok (.iload_n 1, 1) := by decide +kernel
theorem dX9_sightingAt_1 : decode cX9_sightingAt 1 = .ok (.iconst 0, 1) := by decide +kernel
theorem dX9_sightingAt_2 : decode cX9_sightingAt 2 = .ok (.aload_n 0, 1) := by decide +kernel
theorem dX9_sightingAt_3 : decode cX9_sightingAt 3 = .ok (.getfield 91, 3) := by decide +kernel
theorem dX9_sightingAt_6 : decode cX9_sightingAt 6 = .ok (.iconst 1, 1) := by decide +kernel
theorem dX9_sightingAt_7 : decode cX9_sightingAt 7 = .ok (.isub, 1) := by decide +kernel
theorem dX9_sightingAt_8 : decode cX9_sightingAt 8 = .ok (.invokestatic 67, 3) := by decide +kernel
theorem dX9_sightingAt_11 : decode cX9_sightingAt 11 = .ok (.ifCond .eq 12, 3) := by decide +kernel
theorem dX9_sightingAt_14 : decode cX9_sightingAt 14 = .ok (.aload_n 0, 1) := by decide +kernel
theorem dX9_sightingAt_15 : decode cX9_sightingAt 15 = .ok (.getfield 17, 3) := by decide +kernel
theorem dX9_sightingAt_18 : decode cX9_sightingAt 18 = .ok (.iload_n 1, 1) := by decide +kernel
theorem dX9_sightingAt_19 : decode cX9_sightingAt 19 = .ok (.aaload, 1) := by decide +kernel
theorem dX9_sightingAt_20 : decode cX9_sightingAt 20 = .ok (.goto 4, 3) := by decide +kernel
theorem dX9_sightingAt_23 : decode cX9_sightingAt 23 = .ok (.aconst_null, 1) := by decide +kernel
theorem dX9_sightingAt_24 : decode cX9_sightingAt 24 = .ok (.areturn, 1) := by decide +kernel
theorem dX9_keep_0 : decode cX9_keep 0 = .ok (.aload_n 0, 1) := by decide +kernel
theorem dX9_keep_1 : decode cX9_keep 1 = .ok (.getfield 91, 3) := by decide +kernel
theorem dX9_keep_4 : decode cX9_keep 4 = .ok (.istore_n 2, 1) := by decide +kernel
theorem dX9_keep_5 : decode cX9_keep 5 = .ok (.aload_n 0, 1) := by decide +kernel
theorem dX9_keep_6 : decode cX9_keep 6 = .ok (.aload_n 1, 1) := by decide +kernel
theorem dX9_keep_7 : decode cX9_keep 7 = .ok (.getfield 130, 3) := by decide +kernel
theorem dX9_keep_10 : decode cX9_keep 10 = .ok (.invokevirtual 286, 3) := by decide +kernel
theorem dX9_keep_13 : decode cX9_keep 13 = .ok (.ifCond .ne 26, 3) := by decide +kernel
theorem dX9_keep_16 : decode cX9_keep 16 = .ok (.aload_n 0, 1) := by decide +kernel
theorem dX9_keep_17 : decode cX9_keep 17 = .ok (.getfield 34, 3) := by decide +kernel
theorem dX9_keep_20 : decode cX9_keep 20 = .ok (.aload_n 0, 1) := by decide +kernel
theorem dX9_keep_21 : decode cX9_keep 21 = .ok (.getfield 240, 3) := by decide +kernel
theorem dX9_keep_24 : decode cX9_keep 24 = .ok (.aload_n 1, 1) := by decide +kernel
theorem dX9_keep_25 : decode cX9_keep 25 = .ok (.getfield 130, 3) := by decide +kernel
theorem dX9_keep_28 : decode cX9_keep 28 = .ok (.iastore, 1) := by decide +kernel
theorem dX9_keep_29 : decode cX9_keep 29 = .ok (.aload_n 0, 1) := by decide +kernel
theorem dX9_keep_30 : decode cX9_keep 30 = .ok (.dup, 1) := by decide +kernel
theorem dX9_keep_31 : decode cX9_keep 31 = .ok (.getfield 240, 3) := by decide +kernel
theorem dX9_keep_34 : decode cX9_keep 34 = .ok (.iconst 1, 1) := by decide +kernel
theorem dX9_keep_35 : decode cX9_keep 35 = .ok (.iadd, 1) := by decide +kernel
theorem dX9_keep_36 : decode cX9_keep 36 = .ok (.putfield 240, 3) := by decide +kernel
theorem dX9_keep_39 : decode cX9_keep 39 = .ok (.aload_n 0, 1) := by decide +kernel
theorem dX9_keep_40 : decode cX9_keep 40 = .ok (.getfield 17, 3) := by decide +kernel
theorem dX9_keep_43 : decode cX9_keep 43 = .ok (.iload_n 2, 1) := by decide +kernel
theorem dX9_keep_44 : decode cX9_keep 44 = .ok (.aload_n 1, 1) := by decide +kernel
theorem dX9_keep_45 : decode cX9_keep 45 = .ok (.aastore, 1) := by decide +kernel
theorem dX9_keep_46 : decode cX9_keep 46 = .ok (.aload_n 0, 1) := by decide +kernel
theorem dX9_keep_47 : decode cX9_keep 47 = .ok (.dup, 1) := by decide +kernel
theorem dX9_keep_48 : decode cX9_keep 48 = .ok (.getfield 91, 3) := by decide +kernel
theorem dX9_keep_51 : decode cX9_keep 51 = .ok (.iconst 1, 1) := by decide +kernel
theorem dX9_keep_52 : decode cX9_keep 52 = .ok (.iadd, 1) := by decide +kernel
theorem dX9_keep_53 : decode cX9_keep 53 = .ok (.putfield 91, 3) := by decide +kernel
theorem dX9_keep_56 : decode cX9_keep 56 = .ok (.iload_n 2, 1) := by decide +kernel
theorem dX9_keep_57 : decode cX9_keep 57 = .ok (.ireturn, 1) := by decide +kernel
theorem dX9_isSeenNight_0 : decode cX9_isSeenNight 0 = .ok (.iconst 0, 1) := by decide +kernel
theorem dX9_isSeenNight_1 : decode cX9_isSeenNight 1 = .ok (.istore_n 2, 1) := by decide +kernel
theorem dX9_isSeenNight_2 : decode cX9_isSeenNight 2 = .ok (.iload_n 2, 1) := by decide +kernel
theorem dX9_isSeenNight_3 : decode cX9_isSeenNight 3 = .ok (.aload_n 0, 1) := by decide +kernel
theorem dX9_isSeenNight_4 : decode cX9_isSeenNight 4 = .ok (.getfield 240, 3) := by decide +kernel
theorem dX9_isSeenNight_7 : decode cX9_isSeenNight 7 = .ok (.if_icmp .ge 21, 3) := by decide +kernel
theorem dX9_isSeenNight_10 : decode cX9_isSeenNight 10 = .ok (.aload_n 0, 1) := by decide +kernel
theorem dX9_isSeenNight_11 : decode cX9_isSeenNight 11 = .ok (.getfield 34, 3) := by decide +kernel
theorem dX9_isSeenNight_14 : decode cX9_isSeenNight 14 = .ok (.iload_n 2, 1) := by decide +kernel
theorem dX9_isSeenNight_15 : decode cX9_isSeenNight 15 = .ok (.iaload, 1) := by decide +kernel
theorem dX9_isSeenNight_16 : decode cX9_isSeenNight 16 = .ok (.iload_n 1, 1) := by decide +kernel
theorem dX9_isSeenNight_17 : decode cX9_isSeenNight 17 = .ok (.if_icmp .ne 5, 3) := by decide +kernel
theorem dX9_isSeenNight_20 : decode cX9_isSeenNight 20 = .ok (.iconst 1, 1) := by decide +kernel
theorem dX9_isSeenNight_21 : decode cX9_isSeenNight 21 = .ok (.ireturn, 1) := by decide +kernel
theorem dX9_isSeenNight_22 : decode cX9_isSeenNight 22 = .ok (.iinc 2 1, 3) := by decide +kernel
theorem dX9_isSeenNight_25 : decode cX9_isSeenNight 25 = .ok (.goto (-23), 3) := by decide +kernel
theorem dX9_isSeenNight_28 : decode cX9_isSeenNight 28 = .ok (.iconst 0, 1) := by decide +kernel
theorem dX9_isSeenNight_29 : decode cX9_isSeenNight 29 = .ok (.ireturn, 1) := by decide +kernel
theorem dX9_keepArcs_0 : decode cX9_keepArcs 0 = .ok (.iconst 0, 1) := by decide +kernel
theorem dX9_keepArcs_1 : decode cX9_keepArcs 1 = .ok (.istore 4, 2) := by decide +kernel
theorem dX9_keepArcs_3 : decode cX9_keepArcs 3 = .ok (.iload 4, 2) := by decide +kernel
theorem dX9_keepArcs_5 : decode cX9_keepArcs 5 = .ok (.iload_n 3, 1) := by decide +kernel
theorem dX9_keepArcs_6 : decode cX9_keepArcs 6 = .ok (.if_icmp .ge 27, 3) := by decide +kernel
theorem dX9_keepArcs_9 : decode cX9_keepArcs 9 = .ok (.aload_n 0, 1) := by decide +kernel
theorem dX9_keepArcs_10 : decode cX9_keepArcs 10 = .ok (.aload_n 1, 1) := by decide +kernel
theorem dX9_keepArcs_11 : decode cX9_keepArcs 11 = .ok (.iload_n 2, 1) := by decide +kernel
theorem dX9_keepArcs_12 : decode cX9_keepArcs 12 = .ok (.bipush 6, 2) := by decide +kernel
theorem dX9_keepArcs_14 : decode cX9_keepArcs 14 = .ok (.iload 4, 2) := by decide +kernel
theorem dX9_keepArcs_16 : decode cX9_keepArcs 16 = .ok (.imul, 1) := by decide +kernel
theorem dX9_keepArcs_17 : decode cX9_keepArcs 17 = .ok (.iadd, 1) := by decide +kernel
theorem dX9_keepArcs_18 : decode cX9_keepArcs 18 = .ok (.invokevirtual 289, 3) := by decide +kernel
theorem dX9_keepArcs_21 : decode cX9_keepArcs 21 = .ok (.ifCond .ne 6, 3) := by decide +kernel
theorem dX9_keepArcs_24 : decode cX9_keepArcs 24 = .ok (.bipush (-2), 2) := by decide +kernel
theorem dX9_keepArcs_26 : decode cX9_keepArcs 26 = .ok (.ireturn, 1) := by decide +kernel
theorem dX9_keepArcs_27 : decode cX9_keepArcs 27 = .ok (.iinc 4 1, 3) := by decide +kernel
theorem dX9_keepArcs_30 : decode cX9_keepArcs 30 = .ok (.goto (-27), 3) := by decide +kernel
theorem dX9_keepArcs_33 : decode cX9_keepArcs 33 = .ok (.iload_n 3, 1) := by decide +kernel
theorem dX9_keepArcs_34 : decode cX9_keepArcs 34 = .ok (.bipush 40, 2) := by decide +kernel
theorem dX9_keepArcs_36 : decode cX9_keepArcs 36 = .ok (.aload_n 0, 1) := by decide +kernel
theorem dX9_keepArcs_37 : decode cX9_keepArcs 37 = .ok (.getfield 91, 3) := by decide +kernel
theorem dX9_keepArcs_40 : decode cX9_keepArcs 40 = .ok (.isub, 1) := by decide +kernel
theorem dX9_keepArcs_41 : decode cX9_keepArcs 41 = .ok (.if_icmp .le 6, 3) := by decide +kernel
theorem dX9_keepArcs_44 : decode cX9_keepArcs 44 = .ok (.bipush (-3), 2) := by decide +kernel
theorem dX9_keepArcs_46 : decode cX9_keepArcs 46 = .ok (.ireturn, 1) := by decide +kernel
theorem dX9_keepArcs_47 : decode cX9_keepArcs 47 = .ok (.iconst 0, 1) := by decide +kernel
theorem dX9_keepArcs_48 : decode cX9_keepArcs 48 = .ok (.istore 4, 2) := by decide +kernel
theorem dX9_keepArcs_50 : decode cX9_keepArcs 50 = .ok (.iload 4, 2) := by decide +kernel
theorem dX9_keepArcs_52 : decode cX9_keepArcs 52 = .ok (.iload_n 3, 1) := by decide +kernel
theorem dX9_keepArcs_53 : decode cX9_keepArcs 53 = .ok (.if_icmp .ge 21, 3) := by decide +kernel
theorem dX9_keepArcs_56 : decode cX9_keepArcs 56 = .ok (.aload_n 0, 1) := by decide +kernel
theorem dX9_keepArcs_57 : decode cX9_keepArcs 57 = .ok (.aload_n 1, 1) := by decide +kernel
theorem dX9_keepArcs_58 : decode cX9_keepArcs 58 = .ok (.iload_n 2, 1) := by decide +kernel
theorem dX9_keepArcs_59 : decode cX9_keepArcs 59 = .ok (.bipush 6, 2) := by decide +kernel
theorem dX9_keepArcs_61 : decode cX9_keepArcs 61 = .ok (.iload 4, 2) := by decide +kernel
theorem dX9_keepArcs_63 : decode cX9_keepArcs 63 = .ok (.imul, 1) := by decide +kernel
theorem dX9_keepArcs_64 : decode cX9_keepArcs 64 = .ok (.iadd, 1) := by decide +kernel
theorem dX9_keepArcs_65 : decode cX9_keepArcs 65 = .ok (.invokevirtual 293, 3) := by decide +kernel
theorem dX9_keepArcs_68 : decode cX9_keepArcs 68 = .ok (.iinc 4 1, 3) := by decide +kernel
theorem dX9_keepArcs_71 : decode cX9_keepArcs 71 = .ok (.goto (-21), 3) := by decide +kernel
theorem dX9_keepArcs_74 : decode cX9_keepArcs 74 = .ok (.aload_n 0, 1) := by decide +kernel
theorem dX9_keepArcs_75 : decode cX9_keepArcs 75 = .ok (.getfield 91, 3) := by decide +kernel
theorem dX9_keepArcs_78 : decode cX9_keepArcs 78 = .ok (.ireturn, 1) := by decide +kernel
theorem dX9_isArcAt_0 : decode cX9_isArcAt 0 = .ok (.aload_n 0, 1) := by decide +kernel
theorem dX9_isArcAt_1 : decode cX9_isArcAt 1 = .ok (.aload_n 1, 1) := by decide +kernel
theorem dX9_isArcAt_2 : decode cX9_isArcAt 2 = .ok (.iload_n 2, 1) := by decide +kernel
theorem dX9_isArcAt_3 : decode cX9_isArcAt 3 = .ok (.iaload, 1) := by decide +kernel
theorem dX9_isArcAt_4 : decode cX9_isArcAt 4 = .ok (.invokevirtual 77, 3) := by decide +kernel
theorem dX9_isArcAt_7 : decode cX9_isArcAt 7 = .ok (.ifnull 44, 3) := by decide +kernel
theorem dX9_isArcAt_10 : decode cX9_isArcAt 10 = .ok (.aload_n 1, 1) := by decide +kernel
theorem dX9_isArcAt_11 : decode cX9_isArcAt 11 = .ok (.iload_n 2, 1) := by decide +kernel
theorem dX9_isArcAt_12 : decode cX9_isArcAt 12 = .ok (.iconst 1, 1) := by decide +kernel
theorem dX9_isArcAt_13 : decode cX9_isArcAt 13 = .ok (.iadd, 1) := by decide +kernel
theorem dX9_isArcAt_14 : decode cX9_isArcAt 14 = .ok (.iaload, 1) := by decide +kernel
theorem dX9_isArcAt_15 : decode cX9_isArcAt 15 = .ok (.aload_n 1, 1) := by decide +kernel
theorem dX9_isArcAt_16 : decode cX9_isArcAt 16 = .ok (.iload_n 2, 1) := by decide +kernel
theorem dX9_isArcAt_17 : decode cX9_isArcAt 17 = .ok (.iconst 2, 1) := by decide +kernel
theorem dX9_isArcAt_18 : decode cX9_isArcAt 18 = .ok (.iadd, 1) := by decide +kernel
theorem dX9_isArcAt_19 : decode cX9_isArcAt 19 = .ok (.iaload, 1) := by decide +kernel
theorem dX9_isArcAt_20 : decode cX9_isArcAt 20 = .ok (.aload_n 1, 1) := by decide +kernel
theorem dX9_isArcAt_21 : decode cX9_isArcAt 21 = .ok (.iload_n 2, 1) := by decide +kernel
theorem dX9_isArcAt_22 : decode cX9_isArcAt 22 = .ok (.iconst 3, 1) := by decide +kernel
theorem dX9_isArcAt_23 : decode cX9_isArcAt 23 = .ok (.iadd, 1) := by decide +kernel
theorem dX9_isArcAt_24 : decode cX9_isArcAt 24 = .ok (.iaload, 1) := by decide +kernel
theorem dX9_isArcAt_25 : decode cX9_isArcAt 25 = .ok (.aload_n 1, 1) := by decide +kernel
theorem dX9_isArcAt_26 : decode cX9_isArcAt 26 = .ok (.iload_n 2, 1) := by decide +kernel
theorem dX9_isArcAt_27 : decode cX9_isArcAt 27 = .ok (.iconst 4, 1) := by decide +kernel
theorem dX9_isArcAt_28 : decode cX9_isArcAt 28 = .ok (.iadd, 1) := by decide +kernel
theorem dX9_isArcAt_29 : decode cX9_isArcAt 29 = .ok (.iaload, 1) := by decide +kernel
theorem dX9_isArcAt_30 : decode cX9_isArcAt 30 = .ok (.invokestatic 87, 3) := by decide +kernel
theorem dX9_isArcAt_33 : decode cX9_isArcAt 33 = .ok (.ifCond .eq 18, 3) := by decide +kernel
theorem dX9_isArcAt_36 : decode cX9_isArcAt 36 = .ok (.aload_n 1, 1) := by decide +kernel
theorem dX9_isArcAt_37 : decode cX9_isArcAt 37 = .ok (.iload_n 2, 1) := by decide +kernel
theorem dX9_isArcAt_38 : decode cX9_isArcAt 38 = .ok (.iconst 5, 1) := by decide +kernel
theorem dX9_isArcAt_39 : decode cX9_isArcAt 39 = .ok (.iadd, 1) := by decide +kernel
theorem dX9_isArcAt_40 : decode cX9_isArcAt 40 = .ok (.iaload, 1) := by decide +kernel
theorem dX9_isArcAt_41 : decode cX9_isArcAt 41 = .ok (.invokestatic 101, 3) := by decide +kernel
theorem dX9_isArcAt_44 : decode cX9_isArcAt 44 = .ok (.ifCond .eq 7, 3) := by decide +kernel
theorem dX9_isArcAt_47 : decode cX9_isArcAt 47 = .ok (.iconst 1, 1) := by decide +kernel
theorem dX9_isArcAt_48 : decode cX9_isArcAt 48 = .ok (.goto 4, 3) := by decide +kernel
theorem dX9_isArcAt_51 : decode cX9_isArcAt 51 = .ok (.iconst 0, 1) := by decide +kernel
theorem dX9_isArcAt_52 : decode cX9_isArcAt 52 = .ok (.ireturn, 1) := by decide +kernel
theorem dX9_keepArcAt_0 : decode cX9_keepArcAt 0 = .ok (.aload_n 0, 1) := by decide +kernel
theorem dX9_keepArcAt_1 : decode cX9_keepArcAt 1 = .ok (.aload_n 1, 1) := by decide +kernel
theorem dX9_keepArcAt_2 : decode cX9_keepArcAt 2 = .ok (.iload_n 2, 1) := by decide +kernel
theorem dX9_keepArcAt_3 : decode cX9_keepArcAt 3 = .ok (.iaload, 1) := by decide +kernel
theorem dX9_keepArcAt_4 : decode cX9_keepArcAt 4 = .ok (.invokevirtual 77, 3) := by decide +kernel
theorem dX9_keepArcAt_7 : decode cX9_keepArcAt 7 = .ok (.astore_n 3, 1) := by decide +kernel
theorem dX9_keepArcAt_8 : decode cX9_keepArcAt 8 = .ok (.aload_n 3, 1) := by decide +kernel
theorem dX9_keepArcAt_9 : decode cX9_keepArcAt 9 = .ok (.ifnull 41, 3) := by decide +kernel
theorem dX9_keepArcAt_12 : decode cX9_keepArcAt 12 = .ok (.aload_n 0, 1) := by decide +kernel
theorem dX9_keepArcAt_13 : decode cX9_keepArcAt 13 = .ok (.new 105, 3) := by decide +kernel
theorem dX9_keepArcAt_16 : decode cX9_keepArcAt 16 = .ok (.dup, 1) := by decide +kernel
theorem dX9_keepArcAt_17 : decode cX9_keepArcAt 17 = .ok (.aload_n 3, 1) := by decide +kernel
theorem dX9_keepArcAt_18 : decode cX9_keepArcAt 18 = .ok (.aload_n 1, 1) := by decide +kernel
theorem dX9_keepArcAt_19 : decode cX9_keepArcAt 19 = .ok (.iload_n 2, 1) := by decide +kernel
theorem dX9_keepArcAt_20 : decode cX9_keepArcAt 20 = .ok (.iconst 1, 1) := by decide +kernel
theorem dX9_keepArcAt_21 : decode cX9_keepArcAt 21 = .ok (.iadd, 1) := by decide +kernel
theorem dX9_keepArcAt_22 : decode cX9_keepArcAt 22 = .ok (.iaload, 1) := by decide +kernel
theorem dX9_keepArcAt_23 : decode cX9_keepArcAt 23 = .ok (.aload_n 1, 1) := by decide +kernel
theorem dX9_keepArcAt_24 : decode cX9_keepArcAt 24 = .ok (.iload_n 2, 1) := by decide +kernel
theorem dX9_keepArcAt_25 : decode cX9_keepArcAt 25 = .ok (.iconst 2, 1) := by decide +kernel
theorem dX9_keepArcAt_26 : decode cX9_keepArcAt 26 = .ok (.iadd, 1) := by decide +kernel
theorem dX9_keepArcAt_27 : decode cX9_keepArcAt 27 = .ok (.iaload, 1) := by decide +kernel
theorem dX9_keepArcAt_28 : decode cX9_keepArcAt 28 = .ok (.aload_n 1, 1) := by decide +kernel
theorem dX9_keepArcAt_29 : decode cX9_keepArcAt 29 = .ok (.iload_n 2, 1) := by decide +kernel
theorem dX9_keepArcAt_30 : decode cX9_keepArcAt 30 = .ok (.iconst 3, 1) := by decide +kernel
theorem dX9_keepArcAt_31 : decode cX9_keepArcAt 31 = .ok (.iadd, 1) := by decide +kernel
theorem dX9_keepArcAt_32 : decode cX9_keepArcAt 32 = .ok (.iaload, 1) := by decide +kernel
theorem dX9_keepArcAt_33 : decode cX9_keepArcAt 33 = .ok (.aload_n 1, 1) := by decide +kernel
theorem dX9_keepArcAt_34 : decode cX9_keepArcAt 34 = .ok (.iload_n 2, 1) := by decide +kernel
theorem dX9_keepArcAt_35 : decode cX9_keepArcAt 35 = .ok (.iconst 4, 1) := by decide +kernel
theorem dX9_keepArcAt_36 : decode cX9_keepArcAt 36 = .ok (.iadd, 1) := by decide +kernel
theorem dX9_keepArcAt_37 : decode cX9_keepArcAt 37 = .ok (.iaload, 1) := by decide +kernel
theorem dX9_keepArcAt_38 : decode cX9_keepArcAt 38 = .ok (.aload_n 1, 1) := by decide +kernel
theorem dX9_keepArcAt_39 : decode cX9_keepArcAt 39 = .ok (.iload_n 2, 1) := by decide +kernel
theorem dX9_keepArcAt_40 : decode cX9_keepArcAt 40 = .ok (.iconst 5, 1) := by decide +kernel
theorem dX9_keepArcAt_41 : decode cX9_keepArcAt 41 = .ok (.iadd, 1) := by decide +kernel
theorem dX9_keepArcAt_42 : decode cX9_keepArcAt 42 = .ok (.iaload, 1) := by decide +kernel
theorem dX9_keepArcAt_43 : decode cX9_keepArcAt 43 = .ok (.invokespecial 107, 3) := by decide +kernel
theorem dX9_keepArcAt_46 : decode cX9_keepArcAt 46 = .ok (.invokevirtual 97, 3) := by decide +kernel
theorem dX9_keepArcAt_49 : decode cX9_keepArcAt 49 = .ok (.pop, 1) := by decide +kernel
theorem dX9_keepArcAt_50 : decode cX9_keepArcAt 50 = .ok (.return_, 1) := by decide +kernel
theorem dX9_lookAt_0 : decode cX9_lookAt 0 = .ok (.aload_n 0, 1) := by decide +kernel
theorem dX9_lookAt_1 : decode cX9_lookAt 1 = .ok (.getfield 56, 3) := by decide +kernel
theorem dX9_lookAt_4 : decode cX9_lookAt 4 = .ok (.aload_n 0, 1) := by decide +kernel
theorem dX9_lookAt_5 : decode cX9_lookAt 5 = .ok (.getfield 17, 3) := by decide +kernel
theorem dX9_lookAt_8 : decode cX9_lookAt 8 = .ok (.aload_n 0, 1) := by decide +kernel
theorem dX9_lookAt_9 : decode cX9_lookAt 9 = .ok (.getfield 91, 3) := by decide +kernel
theorem dX9_lookAt_12 : decode cX9_lookAt 12 = .ok (.iload_n 1, 1) := by decide +kernel
theorem dX9_lookAt_13 : decode cX9_lookAt 13 = .ok (.invokevirtual 297, 3) := by decide +kernel
theorem dX9_lookAt_16 : decode cX9_lookAt 16 = .ok (.ifCond .ne 6, 3) := by decide +kernel
theorem dX9_lookAt_19 : decode cX9_lookAt 19 = .ok (.bipush (-3), 2) := by decide +kernel
theorem dX9_lookAt_21 : decode cX9_lookAt 21 = .ok (.ireturn, 1) := by decide +kernel
theorem dX9_lookAt_22 : decode cX9_lookAt 22 = .ok (.aload_n 0, 1) := by decide +kernel
theorem dX9_lookAt_23 : decode cX9_lookAt 23 = .ok (.getfield 56, 3) := by decide +kernel
theorem dX9_lookAt_26 : decode cX9_lookAt 26 = .ok (.aload_n 0, 1) := by decide +kernel
theorem dX9_lookAt_27 : decode cX9_lookAt 27 = .ok (.getfield 49, 3) := by decide +kernel
theorem dX9_lookAt_30 : decode cX9_lookAt 30 = .ok (.aload_n 0, 1) := by decide +kernel
theorem dX9_lookAt_31 : decode cX9_lookAt 31 = .ok (.getfield 60, 3) := by decide +kernel
theorem dX9_lookAt_34 : decode cX9_lookAt 34 = .ok (.invokevirtual 301, 3) := by decide +kernel
theorem dX9_lookAt_37 : decode cX9_lookAt 37 = .ok (.ireturn, 1) := by decide +kernel
theorem dX9_watchOf_0 : decode cX9_watchOf 0 = .ok (.iconst 0, 1) := by decide +kernel
theorem dX9_watchOf_1 : decode cX9_watchOf 1 = .ok (.istore_n 3, 1) := by decide +kernel
theorem dX9_watchOf_2 : decode cX9_watchOf 2 = .ok (.iload_n 3, 1) := by decide +kernel
theorem dX9_watchOf_3 : decode cX9_watchOf 3 = .ok (.aload_n 0, 1) := by decide +kernel
theorem dX9_watchOf_4 : decode cX9_watchOf 4 = .ok (.getfield 219, 3) := by decide +kernel
theorem dX9_watchOf_7 : decode cX9_watchOf 7 = .ok (.if_icmp .ge 44, 3) := by decide +kernel
theorem dX9_watchOf_10 : decode cX9_watchOf 10 = .ok (.aload_n 0, 1) := by decide +kernel
theorem dX9_watchOf_11 : decode cX9_watchOf 11 = .ok (.getfield 23, 3) := by decide +kernel
theorem dX9_watchOf_14 : decode cX9_watchOf 14 = .ok (.iload_n 3, 1) := by decide +kernel
theorem dX9_watchOf_15 : decode cX9_watchOf 15 = .ok (.aaload, 1) := by decide +kernel
theorem dX9_watchOf_16 : decode cX9_watchOf 16 = .ok (.astore 4, 2) := by decide +kernel
theorem dX9_watchOf_18 : decode cX9_watchOf 18 = .ok (.aload 4, 2) := by decide +kernel
theorem dX9_watchOf_20 : decode cX9_watchOf 20 = .ok (.getfield 232, 3) := by decide +kernel
theorem dX9_watchOf_23 : decode cX9_watchOf 23 = .ok (.getfield 127, 3) := by decide +kernel
theorem dX9_watchOf_26 : decode cX9_watchOf 26 = .ok (.aload_n 1, 1) := by decide +kernel
theorem dX9_watchOf_27 : decode cX9_watchOf 27 = .ok (.getfield 127, 3) := by decide +kernel
theorem dX9_watchOf_30 : decode cX9_watchOf 30 = .ok (.if_icmp .ne 15, 3) := by decide +kernel
theorem dX9_watchOf_33 : decode cX9_watchOf 33 = .ok (.aload 4, 2) := by decide +kernel
theorem dX9_watchOf_35 : decode cX9_watchOf 35 = .ok (.getfield 233, 3) := by decide +kernel
theorem dX9_watchOf_38 : decode cX9_watchOf 38 = .ok (.iload_n 2, 1) := by decide +kernel
theorem dX9_watchOf_39 : decode cX9_watchOf 39 = .ok (.if_icmp .ne 6, 3) := by decide +kernel
theorem dX9_watchOf_42 : decode cX9_watchOf 42 = .ok (.aload 4, 2) := by decide +kernel
theorem dX9_watchOf_44 : decode cX9_watchOf 44 = .ok (.areturn, 1) := by decide +kernel
theorem dX9_watchOf_45 : decode cX9_watchOf 45 = .ok (.iinc 3 1, 3) := by decide +kernel
theorem dX9_watchOf_48 : decode cX9_watchOf 48 = .ok (.goto (-46), 3) := by decide +kernel
theorem dX9_watchOf_51 : decode cX9_watchOf 51 = .ok (.aconst_null, 1) := by decide +kernel
theorem dX9_watchOf_52 : decode cX9_watchOf 52 = .ok (.areturn, 1) := by decide +kernel
theorem dX9_saw_0 : decode cX9_saw 0 = .ok (.iconst 0, 1) := by decide +kernel
theorem dX9_saw_1 : decode cX9_saw 1 = .ok (.istore_n 3, 1) := by decide +kernel
theorem dX9_saw_2 : decode cX9_saw 2 = .ok (.iload_n 3, 1) := by decide +kernel
theorem dX9_saw_3 : decode cX9_saw 3 = .ok (.aload_n 0, 1) := by decide +kernel
theorem dX9_saw_4 : decode cX9_saw 4 = .ok (.getfield 91, 3) := by decide +kernel
theorem dX9_saw_7 : decode cX9_saw 7 = .ok (.if_icmp .ge 43, 3) := by decide +kernel
theorem dX9_saw_10 : decode cX9_saw 10 = .ok (.aload_n 0, 1) := by decide +kernel
theorem dX9_saw_11 : decode cX9_saw 11 = .ok (.getfield 17, 3) := by decide +kernel
theorem dX9_saw_14 : decode cX9_saw 14 = .ok (.iload_n 3, 1) := by decide +kernel
theorem dX9_saw_15 : decode cX9_saw 15 = .ok (.aaload, 1) := by decide +kernel
theorem dX9_saw_16 : decode cX9_saw 16 = .ok (.astore 4, 2) := by decide +kernel
theorem dX9_saw_18 : decode cX9_saw 18 = .ok (.aload 4, 2) := by decide +kernel
theorem dX9_saw_20 : decode cX9_saw 20 = .ok (.getfield 123, 3) := by decide +kernel
theorem dX9_saw_23 : decode cX9_saw 23 = .ok (.getfield 127, 3) := by decide +kernel
theorem dX9_saw_26 : decode cX9_saw 26 = .ok (.aload_n 1, 1) := by decide +kernel
theorem dX9_saw_27 : decode cX9_saw 27 = .ok (.getfield 127, 3) := by decide +kernel
theorem dX9_saw_30 : decode cX9_saw 30 = .ok (.if_icmp .ne 14, 3) := by decide +kernel
theorem dX9_saw_33 : decode cX9_saw 33 = .ok (.aload 4, 2) := by decide +kernel
theorem dX9_saw_35 : decode cX9_saw 35 = .ok (.getfield 130, 3) := by decide +kernel
theorem dX9_saw_38 : decode cX9_saw 38 = .ok (.iload_n 2, 1) := by decide +kernel
theorem dX9_saw_39 : decode cX9_saw 39 = .ok (.if_icmp .ne 5, 3) := by decide +kernel
theorem dX9_saw_42 : decode cX9_saw 42 = .ok (.iconst 1, 1) := by decide +kernel
theorem dX9_saw_43 : decode cX9_saw 43 = .ok (.ireturn, 1) := by decide +kernel
theorem dX9_saw_44 : decode cX9_saw 44 = .ok (.iinc 3 1, 3) := by decide +kernel
theorem dX9_saw_47 : decode cX9_saw 47 = .ok (.goto (-45), 3) := by decide +kernel
theorem dX9_saw_50 : decode cX9_saw 50 = .ok (.iconst 0, 1) := by decide +kernel
theorem dX9_saw_51 : decode cX9_saw 51 = .ok (.ireturn, 1) := by decide +kernel
theorem dX9_roundOf_0 : decode cX9_roundOf 0 = .ok (.iconst 0, 1) := by decide +kernel
theorem dX9_roundOf_1 : decode cX9_roundOf 1 = .ok (.istore_n 2, 1) := by decide +kernel
theorem dX9_roundOf_2 : decode cX9_roundOf 2 = .ok (.iload_n 2, 1) := by decide +kernel
theorem dX9_roundOf_3 : decode cX9_roundOf 3 = .ok (.iload_n 1, 1) := by decide +kernel
theorem dX9_roundOf_4 : decode cX9_roundOf 4 = .ok (.if_icmp .ge 16, 3) := by decide +kernel
theorem dX9_roundOf_7 : decode cX9_roundOf 7 = .ok (.aload_n 0, 1) := by decide +kernel
theorem dX9_roundOf_8 : decode cX9_roundOf 8 = .ok (.getfield 37, 3) := by decide +kernel
theorem dX9_roundOf_11 : decode cX9_roundOf 11 = .ok (.iload_n 2, 1) := by decide +kernel
theorem dX9_roundOf_12 : decode cX9_roundOf 12 = .ok (.iconst 0, 1) := by decide +kernel
theorem dX9_roundOf_13 : decode cX9_roundOf 13 = .ok (.iastore, 1) := by decide +kernel
theorem dX9_roundOf_14 : decode cX9_roundOf 14 = .ok (.iinc 2 1, 3) := by decide +kernel
theorem dX9_roundOf_17 : decode cX9_roundOf 17 = .ok (.goto (-15), 3) := by decide +kernel
theorem dX9_roundOf_20 : decode cX9_roundOf 20 = .ok (.iconst 0, 1) := by decide +kernel
theorem dX9_roundOf_21 : decode cX9_roundOf 21 = .ok (.istore_n 2, 1) := by decide +kernel
theorem dX9_roundOf_22 : decode cX9_roundOf 22 = .ok (.iload_n 2, 1) := by decide +kernel
theorem dX9_roundOf_23 : decode cX9_roundOf 23 = .ok (.aload_n 0, 1) := by decide +kernel
theorem dX9_roundOf_24 : decode cX9_roundOf 24 = .ok (.getfield 240, 3) := by decide +kernel
theorem dX9_roundOf_27 : decode cX9_roundOf 27 = .ok (.if_icmp .ge 26, 3) := by decide +kernel
theorem dX9_roundOf_30 : decode cX9_roundOf 30 = .ok (.aload_n 0, 1) := by decide +kernel
theorem dX9_roundOf_31 : decode cX9_roundOf 31 = .ok (.getfield 37, 3) := by decide +kernel
theorem dX9_roundOf_34 : decode cX9_roundOf 34 = .ok (.aload_n 0, 1) := by decide +kernel
theorem dX9_roundOf_35 : decode cX9_roundOf 35 = .ok (.getfield 34, 3) := by decide +kernel
theorem dX9_roundOf_38 : decode cX9_roundOf 38 = .ok (.iload_n 2, 1) := by decide +kernel
theorem dX9_roundOf_39 : decode cX9_roundOf 39 = .ok (.iaload, 1) := by decide +kernel
theorem dX9_roundOf_40 : decode cX9_roundOf 40 = .ok (.iload_n 1, 1) := by decide +kernel
theorem dX9_roundOf_41 : decode cX9_roundOf 41 = .ok (.irem, 1) := by decide +kernel
theorem dX9_roundOf_42 : decode cX9_roundOf 42 = .ok (.dup2, 1) := by decide +kernel
theorem dX9_roundOf_43 : decode cX9_roundOf 43 = .ok (.iaload, 1) := by decide +kernel
theorem dX9_roundOf_44 : decode cX9_roundOf 44 = .ok (.iconst 1, 1) := by decide +kernel
theorem dX9_roundOf_45 : decode cX9_roundOf 45 = .ok (.iadd, 1) := by decide +kernel
theorem dX9_roundOf_46 : decode cX9_roundOf 46 = .ok (.iastore, 1) := by decide +kernel
theorem dX9_roundOf_47 : decode cX9_roundOf 47 = .ok (.iinc 2 1, 3) := by decide +kernel
theorem dX9_roundOf_50 : decode cX9_roundOf 50 = .ok (.goto (-28), 3) := by decide +kernel
theorem dX9_roundOf_53 : decode cX9_roundOf 53 = .ok (.iconst 0, 1) := by decide +kernel
theorem dX9_roundOf_54 : decode cX9_roundOf 54 = .ok (.istore_n 2, 1) := by decide +kernel
theorem dX9_roundOf_55 : decode cX9_roundOf 55 = .ok (.iconst 0, 1) := by decide +kernel
theorem dX9_roundOf_56 : decode cX9_roundOf 56 = .ok (.istore_n 3, 1) := by decide +kernel
theorem dX9_roundOf_57 : decode cX9_roundOf 57 = .ok (.iload_n 3, 1) := by decide +kernel
theorem dX9_roundOf_58 : decode cX9_roundOf 58 = .ok (.iload_n 1, 1) := by decide +kernel
theorem dX9_roundOf_59 : decode cX9_roundOf 59 = .ok (.if_icmp .ge 25, 3) := by decide +kernel
theorem dX9_roundOf_62 : decode cX9_roundOf 62 = .ok (.iload_n 2, 1) := by decide +kernel
theorem dX9_roundOf_63 : decode cX9_roundOf 63 = .ok (.aload_n 0, 1) := by decide +kernel
theorem dX9_roundOf_64 : decode cX9_roundOf 64 = .ok (.getfield 37, 3) := by decide +kernel
theorem dX9_roundOf_67 : decode cX9_roundOf 67 = .ok (.iload_n 3, 1) := by decide +kernel
theorem dX9_roundOf_68 : decode cX9_roundOf 68 = .ok (.iaload, 1) := by decide +kernel
theorem dX9_roundOf_69 : decode cX9_roundOf 69 = .ok (.aload_n 0, 1) := by decide +kernel
theorem dX9_roundOf_70 : decode cX9_roundOf 70 = .ok (.getfield 37, 3) := by decide +kernel
theorem dX9_roundOf_73 : decode cX9_roundOf 73 = .ok (.iload_n 3, 1) := by decide +kernel
theorem dX9_roundOf_74 : decode cX9_roundOf 74 = .ok (.iaload, 1) := by decide +kernel
theorem dX9_roundOf_75 : decode cX9_roundOf 75 = .ok (.imul, 1) := by decide +kernel
theorem dX9_roundOf_76 : decode cX9_roundOf 76 = .ok (.iadd, 1) := by decide +kernel
theorem dX9_roundOf_77 : decode cX9_roundOf 77 = .ok (.istore_n 2, 1) := by decide +kernel
theorem dX9_roundOf_78 : decode cX9_roundOf 78 = .ok (.iinc 3 1, 3) := by decide +kernel
theorem dX9_roundOf_81 : decode cX9_roundOf 81 = .ok (.goto (-24), 3) := by decide +kernel
theorem dX9_roundOf_84 : decode cX9_roundOf 84 = .ok (.iload_n 1, 1) := by decide +kernel
theorem dX9_roundOf_85 : decode cX9_roundOf 85 = .ok (.iload_n 2, 1) := by decide +kernel
theorem dX9_roundOf_86 : decode cX9_roundOf 86 = .ok (.imul, 1) := by decide +kernel
theorem dX9_roundOf_87 : decode cX9_roundOf 87 = .ok (.ireturn, 1) := by decide +kernel
theorem dX9_areShared_0 : decode cX9_areShared 0 = .ok (.iconst 0, 1) := by decide +kernel
theorem dX9_areShared_1 : decode cX9_areShared 1 = .ok (.istore_n 3, 1) := by decide +kernel
theorem dX9_areShared_2 : decode cX9_areShared 2 = .ok (.iload_n 3, 1) := by decide +kernel
theorem dX9_areShared_3 : decode cX9_areShared 3 = .ok (.aload_n 0, 1) := by decide +kernel
theorem dX9_areShared_4 : decode cX9_areShared 4 = .ok (.getfield 247, 3) := by decide +kernel
theorem dX9_areShared_7 : decode cX9_areShared 7 = .ok (.if_icmp .ge 51, 3) := by decide +kernel
theorem dX9_areShared_10 : decode cX9_areShared 10 = .ok (.aload_n 0, 1) := by decide +kernel
theorem dX9_areShared_11 : decode cX9_areShared 11 = .ok (.getfield 27, 3) := by decide +kernel
theorem dX9_areShared_14 : decode cX9_areShared 14 = .ok (.iload_n 3, 1) := by decide +kernel
theorem dX9_areShared_15 : decode cX9_areShared 15 = .ok (.iaload, 1) := by decide +kernel
theorem dX9_areShared_16 : decode cX9_areShared 16 = .ok (.istore 4, 2) := by decide +kernel
theorem dX9_areShared_18 : decode cX9_areShared 18 = .ok (.aload_n 0, 1) := by decide +kernel
theorem dX9_areShared_19 : decode cX9_areShared 19 = .ok (.getfield 31, 3) := by decide +kernel
theorem dX9_areShared_22 : decode cX9_areShared 22 = .ok (.iload_n 3, 1) := by decide +kernel
theorem dX9_areShared_23 : decode cX9_areShared 23 = .ok (.iaload, 1) := by decide +kernel
theorem dX9_areShared_24 : decode cX9_areShared 24 = .ok (.istore 5, 2) := by decide +kernel
theorem dX9_areShared_26 : decode cX9_areShared 26 = .ok (.iload 4, 2) := by decide +kernel
theorem dX9_areShared_28 : decode cX9_areShared 28 = .ok (.iload_n 1, 1) := by decide +kernel
theorem dX9_areShared_29 : decode cX9_areShared 29 = .ok (.if_icmp .ne 9, 3) := by decide +kernel
theorem dX9_areShared_32 : decode cX9_areShared 32 = .ok (.iload 5, 2) := by decide +kernel
theorem dX9_areShared_34 : decode cX9_areShared 34 = .ok (.iload_n 2, 1) := by decide +kernel
theorem dX9_areShared_35 : decode cX9_areShared 35 = .ok (.if_icmp .eq 15, 3) := by decide +kernel
theorem dX9_areShared_38 : decode cX9_areShared 38 = .ok (.iload 4, 2) := by decide +kernel
theorem dX9_areShared_40 : decode cX9_areShared 40 = .ok (.iload_n 2, 1) := by decide +kernel
theorem dX9_areShared_41 : decode cX9_areShared 41 = .ok (.if_icmp .ne 11, 3) := by decide +kernel
theorem dX9_areShared_44 : decode cX9_areShared 44 = .ok (.iload 5, 2) := by decide +kernel
theorem dX9_areShared_46 : decode cX9_areShared 46 = .ok (.iload_n 1, 1) := by decide +kernel
theorem dX9_areShared_47 : decode cX9_areShared 47 = .ok (.if_icmp .ne 5, 3) := by decide +kernel
theorem dX9_areShared_50 : decode cX9_areShared 50 = .ok (.iconst 1, 1) := by decide +kernel
theorem dX9_areShared_51 : decode cX9_areShared 51 = .ok (.ireturn, 1) := by decide +kernel
theorem dX9_areShared_52 : decode cX9_areShared 52 = .ok (.iinc 3 1, 3) := by decide +kernel
theorem dX9_areShared_55 : decode cX9_areShared 55 = .ok (.goto (-53), 3) := by decide +kernel
theorem dX9_areShared_58 : decode cX9_areShared 58 = .ok (.iconst 0, 1) := by decide +kernel
theorem dX9_areShared_59 : decode cX9_areShared 59 = .ok (.ireturn, 1) := by decide +kernel
