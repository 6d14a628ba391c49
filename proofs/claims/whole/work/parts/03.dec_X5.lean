theorem dX5_init_0 : decode cX5_init 0 = .ok (.aload_n 0, 1) := by decide +kernel
theorem dX5_init_1 : decode cX5_init 1 = .ok (.invokespecial 3, 3) := by decide +kernel
theorem dX5_init_4 : decode cX5_init 4 = .ok (.aload_n 0, 1) := by decide +kernel
theorem dX5_init_5 : decode cX5_init 5 = .ok (.iconst 0, 1) := by decide +kernel
theorem dX5_init_6 : decode cX5_init 6 = .ok (.putfield 9, 3) := by decide +kernel
theorem dX5_init_9 : decode cX5_init 9 = .ok (.aload_n 0, 1) := by decide +kernel
theorem dX5_init_10 : decode cX5_init 10 = .ok (.bipush 6, 2) := by decide +kernel
theorem dX5_init_12 : decode cX5_init 12 = .ok (.newarray .long, 2) := by decide +kernel
theorem dX5_init_14 : decode cX5_init 14 = .ok (.putfield 15, 3) := by decide +kernel
theorem dX5_init_17 : decode cX5_init 17 = .ok (.aload_n 0, 1) := by decide +kernel
theorem dX5_init_18 : decode cX5_init 18 = .ok (.lconst 0, 1) := by decide +kernel
theorem dX5_init_19 : decode cX5_init 19 = .ok (.putfield 19, 3) := by decide +kernel
theorem dX5_init_22 : decode cX5_init 22 = .ok (.aload_n 0, 1) := by decide +kernel
theorem dX5_init_23 : decode cX5_init 23 = .ok (.sipush (-1005), 3) := by decide +kernel
theorem dX5_init_26 : decode cX5_init 26 = .ok (.putfield 23, 3) := by decide +kernel
theorem dX5_init_29 : decode cX5_init 29 = .ok (.aload_n 0, 1) := by decide +kernel
theorem dX5_init_30 : decode cX5_init 30 = .ok (.sipush (-1005), 3) := by decide +kernel
theorem dX5_init_33 : decode cX5_init 33 = .ok (.putfield 26, 3) := by decide +kernel
theorem dX5_init_36 : decode cX5_init 36 = .ok (.aload_n 0, 1) := by decide +kernel
theorem dX5_init_37 : decode cX5_init 37 = .ok (.bipush 24, 2) := by decide +kernel
theorem dX5_init_39 : decode cX5_init 39 = .ok (.newarray .int, 2) := by decide +kernel
theorem dX5_init_41 : decode cX5_init 41 = .ok (.putfield 29, 3) := by decide +kernel
theorem dX5_init_44 : decode cX5_init 44 = .ok (.new 33, 3) := by decide +kernel
theorem dX5_init_47 : decode cX5_init 47 = .ok (.dup, 1) := by decide +kernel
theorem dX5_init_48 : decode cX5_init 48 = .ok (.invokespecial 35, 3) := by decide +kernel
theorem dX5_init_51 : decode cX5_init 51 = .ok (.astore_n 1, 1) := by decide +kernel
theorem dX5_init_52 : decode cX5_init 52 = .ok (.bipush 24, 2) := by decide +kernel
theorem dX5_init_54 : decode cX5_init 54 = .ok (.anewarray 36, 3) := by decide +kernel
theorem dX5_init_57 : decode cX5_init 57 = .ok (.astore_n 2, 1) := by decide +kernel
theorem dX5_init_58 : decode cX5_init 58 = .ok (.iconst 0, 1) := by decide +kernel
theorem dX5_init_59 : decode cX5_init 59 = .ok (.istore_n 3, 1) := by decide +kernel
theorem dX5_init_60 : decode cX5_init 60 = .ok (.iload_n 3, 1) := by decide +kernel
theorem dX5_init_61 : decode cX5_init 61 = .ok (.bipush 24, 2) := by decide +kernel
theorem dX5_init_63 : decode cX5_init 63 = .ok (.if_icmp .ge 20, 3) := by decide +kernel
theorem dX5_init_66 : decode cX5_init 66 = .ok (.aload_n 2, 1) := by decide +kernel
theorem dX5_init_67 : decode cX5_init 67 = .ok (.iload_n 3, 1) := by decide +kernel
theorem dX5_init_68 : decode cX5_init 68 = .ok (.new 36, 3) := by decide +kernel
theorem dX5_init_71 : decode cX5_init 71 = .ok (.dup, 1) := by decide +kernel
theorem dX5_init_72 : decode cX5_init 72 = .ok (.aload_n 1, 1) := by decide +kernel
theorem dX5_init_73 : decode cX5_init 73 = .ok (.invokespecial 38, 3) := by decide +kernel
theorem dX5_init_76 : decode cX5_init 76 = .ok (.aastore, 1) := by decide +kernel
theorem dX5_init_77 : decode cX5_init 77 = .ok (.iinc 3 1, 3) := by decide +kernel
theorem dX5_init_80 : decode cX5_init 80 = .ok (.goto (-20), 3) := by decide +kernel
theorem dX5_init_83 : decode cX5_init 83 = .ok (.bipush 6, 2) := by decide +kernel
theorem dX5_init_85 : decode cX5_init 85 = .ok (.anewarray 41, 3) := by decide +kernel
theorem dX5_init_88 : decode cX5_init 88 = .ok (.astore_n 3, 1) := by decide +kernel
theorem dX5_init_89 : decode cX5_init 89 = .ok (.iconst 0, 1) := by decide +kernel
theorem dX5_init_90 : decode cX5_init 90 = .ok (.istore 4, 2) := by decide +kernel
theorem dX5_init_92 : decode cX5_init 92 = .ok (.iload 4, 2) := by decide +kernel
theorem dX5_init_94 : decode cX5_init 94 = .ok (.bipush 6, 2) := by decide +kernel
theorem dX5_init_96 : decode cX5_init 96 = .ok (.if_icmp .ge 21, 3) := by decide +kernel
theorem dX5_init_99 : decode cX5_init 99 = .ok (.aload_n 3, 1) := by decide +kernel
theorem dX5_init_100 : decode cX5_init 100 = .ok (.iload 4, 2) := by decide +kernel
theorem dX5_init_102 : decode cX5_init 102 = .ok (.new 41, 3) := by decide +kernel
theorem dX5_init_105 : decode cX5_init 105 = .ok (.dup, 1) := by decide +kernel
theorem dX5_init_106 : decode cX5_init 106 = .ok (.aload_n 2, 1) := by decide +kernel
theorem dX5_init_107 : decode cX5_init 107 = .ok (.invokespecial 43, 3) := by decide +kernel
theorem dX5_init_110 : decode cX5_init 110 = .ok (.aastore, 1) := by decide +kernel
theorem dX5_init_111 : decode cX5_init 111 = .ok (.iinc 4 1, 3) := by decide +kernel
theorem dX5_init_114 : decode cX5_init 114 = .ok (.goto (-22), 3) := by decide +kernel
theorem dX5_init_117 : decode cX5_init 117 = .ok (.aload_n 0, 1) := by decide +kernel
theorem dX5_init_118 : decode cX5_init 118 = .ok (.new 46, 3) := by decide +kernel
theorem dX5_init_121 : decode cX5_init 121 = .ok (.dup, 1) := by decide +kernel
theorem dX5_init_122 : decode cX5_init 122 = .ok (.aload_n 3, 1) := by decide +kernel
theorem dX5_init_123 : decode cX5_init 123 = .ok (.invokespecial 48, 3) := by decide +kernel
theorem dX5_init_126 : decode cX5_init 126 = .ok (.putfield 51, 3) := by decide +kernel
theorem dX5_init_129 : decode cX5_init 129 = .ok (.aload_n 0, 1) := by decide +kernel
theorem dX5_init_130 : decode cX5_init 130 = .ok (.aload_n 1, 1) := by decide +kernel
theorem dX5_init_131 : decode cX5_init 131 = .ok (.putfield 55, 3) := by decide +kernel
theorem dX5_init_134 : decode cX5_init 134 = .ok (.aload_n 0, 1) := by decide +kernel
theorem dX5_init_135 : decode cX5_init 135 = .ok (.aload_n 2, 1) := by decide +kernel
theorem dX5_init_136 : decode cX5_init 136 = .ok (.putfield 59, 3) := by decide +kernel
theorem dX5_init_139 : decode cX5_init 139 = .ok (.aload_n 0, 1) := by decide +kernel
theorem dX5_init_140 : decode cX5_init 140 = .ok (.aload_n 3, 1) := by decide +kernel
theorem dX5_init_141 : decode cX5_init 141 = .ok (.putfield 63, 3) := by decide +kernel
theorem dX5_init_144 : decode cX5_init 144 = .ok (.return_, 1) := by decide +kernel
theorem dX5_addString_0 : decode cX5_addString 0 = .ok (.aload_n 0, 1) := by decide +kernel
theorem dX5_addString_1 : decode cX5_addString 1 = .ok (.getfield 51, 3) := by decide +kernel
theorem dX5_addString_4 : decode cX5_addString 4 = .ok (.getfield 67, 3) := by decide +kernel
theorem dX5_addString_7 : decode cX5_addString 7 = .ok (.bipush 6, 2) := by decide +kernel
theorem dX5_addString_9 : decode cX5_addString 9 = .ok (.if_icmp .lt 7, 3) := by decide +kernel
theorem dX5_addString_12 : decode cX5_addString 12 = .ok (.sipush (-1004), 3) := by decide +kernel
theorem dX5_addString_15 : decode cX5_addString 15 = .ok (.ireturn, 1) := by decide +kernel
theorem dX5_addString_16 : decode cX5_addString 16 = .ok (.aload_n 0, 1) := by decide +kernel
theorem dX5_addString_17 : decode cX5_addString 17 = .ok (.getfield 51, 3) := by decide +kernel
theorem dX5_addString_20 : decode cX5_addString 20 = .ok (.dup, 1) := by decide +kernel
theorem dX5_addString_21 : decode cX5_addString 21 = .ok (.getfield 67, 3) := by decide +kernel
theorem dX5_addString_24 : decode cX5_addString 24 = .ok (.iconst 1, 1) := by decide +kernel
theorem dX5_addString_25 : decode cX5_addString 25 = .ok (.iadd, 1) := by decide +kernel
theorem dX5_addString_26 : decode cX5_addString 26 = .ok (.putfield 67, 3) := by decide +kernel
theorem dX5_addString_29 : decode cX5_addString 29 = .ok (.aload_n 0, 1) := by decide +kernel
theorem dX5_addString_30 : decode cX5_addString 30 = .ok (.getfield 51, 3) := by decide +kernel
theorem dX5_addString_33 : decode cX5_addString 33 = .ok (.getfield 67, 3) := by decide +kernel
theorem dX5_addString_36 : decode cX5_addString 36 = .ok (.iconst 1, 1) := by decide +kernel
theorem dX5_addString_37 : decode cX5_addString 37 = .ok (.isub, 1) := by decide +kernel
theorem dX5_addString_38 : decode cX5_addString 38 = .ok (.ireturn, 1) := by decide +kernel
theorem dX5_addModule_0 : decode cX5_addModule 0 = .ok (.aload_n 0, 1) := by decide +kernel
theorem dX5_addModule_1 : decode cX5_addModule 1 = .ok (.iload_n 1, 1) := by decide +kernel
theorem dX5_addModule_2 : decode cX5_addModule 2 = .ok (.invokevirtual 70, 3) := by decide +kernel
theorem dX5_addModule_5 : decode cX5_addModule 5 = .ok (.ifCond .ne 7, 3) := by decide +kernel
theorem dX5_addModule_8 : decode cX5_addModule 8 = .ok (.sipush (-1001), 3) := by decide +kernel
theorem dX5_addModule_11 : decode cX5_addModule 11 = .ok (.ireturn, 1) := by decide +kernel
theorem dX5_addModule_12 : decode cX5_addModule 12 = .ok (.iload_n 2, 1) := by decide +kernel
theorem dX5_addModule_13 : decode cX5_addModule 13 = .ok (.iconst 1, 1) := by decide +kernel
theorem dX5_addModule_14 : decode cX5_addModule 14 = .ok (.sipush 1000, 3) := by decide +kernel
theorem dX5_addModule_17 : decode cX5_addModule 17 = .ok (.invokestatic 74, 3) := by decide +kernel
theorem dX5_addModule_20 : decode cX5_addModule 20 = .ok (.ifCond .eq 14, 3) := by decide +kernel
theorem dX5_addModule_23 : decode cX5_addModule 23 = .ok (.iload_n 3, 1) := by decide +kernel
theorem dX5_addModule_24 : decode cX5_addModule 24 = .ok (.iconst 1, 1) := by decide +kernel
theorem dX5_addModule_25 : decode cX5_addModule 25 = .ok (.sipush 600, 3) := by decide +kernel
theorem dX5_addModule_28 : decode cX5_addModule 28 = .ok (.invokestatic 74, 3) := by decide +kernel
theorem dX5_addModule_31 : decode cX5_addModule 31 = .ok (.ifCond .ne 7, 3) := by decide +kernel
theorem dX5_addModule_34 : decode cX5_addModule 34 = .ok (.sipush (-1003), 3) := by decide +kernel
theorem dX5_addModule_37 : decode cX5_addModule 37 = .ok (.ireturn, 1) := by decide +kernel
theorem dX5_addModule_38 : decode cX5_addModule 38 = .ok (.aload_n 0, 1) := by decide +kernel
theorem dX5_addModule_39 : decode cX5_addModule 39 = .ok (.getfield 9, 3) := by decide +kernel
theorem dX5_addModule_42 : decode cX5_addModule 42 = .ok (.bipush 24, 2) := by decide +kernel
theorem dX5_addModule_44 : decode cX5_addModule 44 = .ok (.if_icmp .ge 15, 3) := by decide +kernel
theorem dX5_addModule_47 : decode cX5_addModule 47 = .ok (.aload_n 0, 1) := by decide +kernel
theorem dX5_addModule_48 : decode cX5_addModule 48 = .ok (.getfield 63, 3) := by decide +kernel
theorem dX5_addModule_51 : decode cX5_addModule 51 = .ok (.iload_n 1, 1) := by decide +kernel
theorem dX5_addModule_52 : decode cX5_addModule 52 = .ok (.aaload, 1) := by decide +kernel
theorem dX5_addModule_53 : decode cX5_addModule 53 = .ok (.invokevirtual 78, 3) := by decide +kernel
theorem dX5_addModule_56 : decode cX5_addModule 56 = .ok (.ifCond .eq 7, 3) := by decide +kernel
theorem dX5_addModule_59 : decode cX5_addModule 59 = .ok (.sipush (-1004), 3) := by decide +kernel
theorem dX5_addModule_62 : decode cX5_addModule 62 = .ok (.ireturn, 1) := by decide +kernel
theorem dX5_addModule_63 : decode cX5_addModule 63 = .ok (.aload_n 0, 1) := by decide +kernel
theorem dX5_addModule_64 : decode cX5_addModule 64 = .ok (.getfield 9, 3) := by decide +kernel
theorem dX5_addModule_67 : decode cX5_addModule 67 = .ok (.istore 4, 2) := by decide +kernel
theorem dX5_addModule_69 : decode cX5_addModule 69 = .ok (.aload_n 0, 1) := by decide +kernel
theorem dX5_addModule_70 : decode cX5_addModule 70 = .ok (.dup, 1) := by decide +kernel
theorem dX5_addModule_71 : decode cX5_addModule 71 = .ok (.getfield 9, 3) := by decide +kernel
theorem dX5_addModule_74 : decode cX5_addModule 74 = .ok (.iconst 1, 1) := by decide +kernel
theorem dX5_addModule_75 : decode cX5_addModule 75 = .ok (.iadd, 1) := by decide +kernel
theorem dX5_addModule_76 : decode cX5_addModule 76 = .ok (.putfield 9, 3) := by decide +kernel
theorem dX5_addModule_79 : decode cX5_addModule 79 = .ok (.aload_n 0, 1) := by decide +kernel
theorem dX5_addModule_80 : decode cX5_addModule 80 = .ok (.getfield 59, 3) := by decide +kernel
theorem dX5_addModule_83 : decode cX5_addModule 83 = .ok (.iload 4, 2) := by decide +kernel
theorem dX5_addModule_85 : decode cX5_addModule 85 = .ok (.aaload, 1) := by decide +kernel
theorem dX5_addModule_86 : decode cX5_addModule 86 = .ok (.iload_n 2, 1) := by decide +kernel
theorem dX5_addModule_87 : decode cX5_addModule 87 = .ok (.putfield 82, 3) := by decide +kernel
theorem dX5_addModule_90 : decode cX5_addModule 90 = .ok (.aload_n 0, 1) := by decide +kernel
theorem dX5_addModule_91 : decode cX5_addModule 91 = .ok (.getfield 59, 3) := by decide +kernel
theorem dX5_addModule_94 : decode cX5_addModule 94 = .ok (.iload 4, 2) := by decide +kernel
theorem dX5_addModule_96 : decode cX5_addModule 96 = .ok (.aaload, 1) := by decide +kernel
theorem dX5_addModule_97 : decode cX5_addModule 97 = .ok (.iload_n 3, 1) := by decide +kernel
theorem dX5_addModule_98 : decode cX5_addModule 98 = .ok (.putfield 85, 3) := by decide +kernel
theorem dX5_addModule_101 : decode cX5_addModule 101 = .ok (.aload_n 0, 1) := by decide +kernel
theorem dX5_addModule_102 : decode cX5_addModule 102 = .ok (.getfield 59, 3) := by decide +kernel
theorem dX5_addModule_105 : decode cX5_addModule 105 = .ok (.iload 4, 2) := by decide +kernel
theorem dX5_addModule_107 : decode cX5_addModule 107 = .ok (.aaload, 1) := by decide +kernel
theorem dX5_addModule_108 : decode cX5_addModule 108 = .ok (.sipush 1000, 3) := by decide +kernel
theorem dX5_addModule_111 : decode cX5_addModule 111 = .ok (.invokevirtual 88, 3) := by decide +kernel
theorem dX5_addModule_114 : decode cX5_addModule 114 = .ok (.aload_n 0, 1) := by decide +kernel
theorem dX5_addModule_115 : decode cX5_addModule 115 = .ok (.iload 4, 2) := by decide +kernel
theorem dX5_addModule_117 : decode cX5_addModule 117 = .ok (.iload_n 1, 1) := by decide +kernel
theorem dX5_addModule_118 : decode cX5_addModule 118 = .ok (.invokevirtual 92, 3) := by decide +kernel
theorem dX5_addModule_121 : decode cX5_addModule 121 = .ok (.pop, 1) := by decide +kernel
theorem dX5_addModule_122 : decode cX5_addModule 122 = .ok (.iload 4, 2) := by decide +kernel
theorem dX5_addModule_124 : decode cX5_addModule 124 = .ok (.ireturn, 1) := by decide +kernel
theorem dX5_setIrradiance_0 : decode cX5_setIrradiance 0 = .ok (.aload_n 0, 1) := by decide +kernel
theorem dX5_setIrradiance_1 : decode cX5_setIrradiance 1 = .ok (.iload_n 1, 1) := by decide +kernel
theorem dX5_setIrradiance_2 : decode cX5_setIrradiance 2 = .ok (.invokevirtual 96, 3) := by decide +kernel
theorem dX5_setIrradiance_5 : decode cX5_setIrradiance 5 = .ok (.ifCond .ne 7, 3) := by decide +kernel
theorem dX5_setIrradiance_8 : decode cX5_setIrradiance 8 = .ok (.sipush (-1002), 3) := by decide +kernel
theorem dX5_setIrradiance_11 : decode cX5_setIrradiance 11 = .ok (.ireturn, 1) := by decide +kernel
theorem dX5_setIrradiance_12 : decode cX5_setIrradiance 12 = .ok (.iload_n 2, 1) := by decide +kernel
theorem dX5_setIrradiance_13 : decode cX5_setIrradiance 13 = .ok (.iconst 0, 1) := by decide +kernel
theorem dX5_setIrradiance_14 : decode cX5_setIrradiance 14 = .ok (.sipush 1200, 3) := by decide +kernel
theorem dX5_setIrradiance_17 : decode cX5_setIrradiance 17 = .ok (.invokestatic 74, 3) := by decide +kernel
theorem dX5_setIrradiance_20 : decode cX5_setIrradiance 20 = .ok (.ifCond .ne 7, 3) := by decide +kernel
theorem dX5_setIrradiance_23 : decode cX5_setIrradiance 23 = .ok (.sipush (-1003), 3) := by decide +kernel
theorem dX5_setIrradiance_26 : decode cX5_setIrradiance 26 = .ok (.ireturn, 1) := by decide +kernel
theorem dX5_setIrradiance_27 : decode cX5_setIrradiance 27 = .ok (.aload_n 0, 1) := by decide +kernel
theorem dX5_setIrradiance_28 : decode cX5_setIrradiance 28 = .ok (.getfield 59, 3) := by decide +kernel
theorem dX5_setIrradiance_31 : decode cX5_setIrradiance 31 = .ok (.iload_n 1, 1) := by decide +kernel
theorem dX5_setIrradiance_32 : decode cX5_setIrradiance 32 = .ok (.aaload, 1) := by decide +kernel
theorem dX5_setIrradiance_33 : decode cX5_setIrradiance 33 = .ok (.getfield 99, 3) := by decide +kernel
theorem dX5_setIrradiance_36 : decode cX5_setIrradiance 36 = .ok (.istore_n 3, 1) := by decide +kernel
theorem dX5_setIrradiance_37 : decode cX5_setIrradiance 37 = .ok (.aload_n 0, 1) := by decide +kernel
theorem dX5_setIrradiance_38 : decode cX5_setIrradiance 38 = .ok (.getfield 59, 3) := by decide +kernel
theorem dX5_setIrradiance_41 : decode cX5_setIrradiance 41 = .ok (.iload_n 1, 1) := by decide +kernel
theorem dX5_setIrradiance_42 : decode cX5_setIrradiance 42 = .ok (.aaload, 1) := by decide +kernel
theorem dX5_setIrradiance_43 : decode cX5_setIrradiance 43 = .ok (.iload_n 2, 1) := by decide +kernel
theorem dX5_setIrradiance_44 : decode cX5_setIrradiance 44 = .ok (.invokevirtual 88, 3) := by decide +kernel
theorem dX5_setIrradiance_47 : decode cX5_setIrradiance 47 = .ok (.iload_n 3, 1) := by decide +kernel
theorem dX5_setIrradiance_48 : decode cX5_setIrradiance 48 = .ok (.ireturn, 1) := by decide +kernel
theorem dX5_shade_0 : decode cX5_shade 0 = .ok (.aload_n 0, 1) := by decide +kernel
theorem dX5_shade_1 : decode cX5_shade 1 = .ok (.iload_n 1, 1) := by decide +kernel
theorem dX5_shade_2 : decode cX5_shade 2 = .ok (.invokevirtual 96, 3) := by decide +kernel
theorem dX5_shade_5 : decode cX5_shade 5 = .ok (.ifCond .eq 11, 3) := by decide +kernel
theorem dX5_shade_8 : decode cX5_shade 8 = .ok (.aload_n 0, 1) := by decide +kernel
theorem dX5_shade_9 : decode cX5_shade 9 = .ok (.iload_n 2, 1) := by decide +kernel
theorem dX5_shade_10 : decode cX5_shade 10 = .ok (.invokevirtual 96, 3) := by decide +kernel
theorem dX5_shade_13 : decode cX5_shade 13 = .ok (.ifCond .ne 7, 3) := by decide +kernel
theorem dX5_shade_16 : decode cX5_shade 16 = .ok (.sipush (-1002), 3) := by decide +kernel
theorem dX5_shade_19 : decode cX5_shade 19 = .ok (.ireturn, 1) := by decide +kernel
theorem dX5_shade_20 : decode cX5_shade 20 = .ok (.iload_n 1, 1) := by decide +kernel
theorem dX5_shade_21 : decode cX5_shade 21 = .ok (.iload_n 2, 1) := by decide +kernel
theorem dX5_shade_22 : decode cX5_shade 22 = .ok (.if_icmp .gt 13, 3) := by decide +kernel
theorem dX5_shade_25 : decode cX5_shade 25 = .ok (.iload_n 3, 1) := by decide +kernel
theorem dX5_shade_26 : decode cX5_shade 26 = .ok (.iconst 0, 1) := by decide +kernel
theorem dX5_shade_27 : decode cX5_shade 27 = .ok (.bipush 100, 2) := by decide +kernel
theorem dX5_shade_29 : decode cX5_shade 29 = .ok (.invokestatic 74, 3) := by decide +kernel
theorem dX5_shade_32 : decode cX5_shade 32 = .ok (.ifCond .ne 7, 3) := by decide +kernel
theorem dX5_shade_35 : decode cX5_shade 35 = .ok (.sipush (-1003), 3) := by decide +kernel
theorem dX5_shade_38 : decode cX5_shade 38 = .ok (.ireturn, 1) := by decide +kernel
theorem dX5_shade_39 : decode cX5_shade 39 = .ok (.iconst 0, 1) := by decide +kernel
theorem dX5_shade_40 : decode cX5_shade 40 = .ok (.istore 4, 2) := by decide +kernel
theorem dX5_shade_42 : decode cX5_shade 42 = .ok (.iload_n 1, 1) := by decide +kernel
theorem dX5_shade_43 : decode cX5_shade 43 = .ok (.istore 5, 2) := by decide +kernel
theorem dX5_shade_45 : decode cX5_shade 45 = .ok (.iload 5, 2) := by decide +kernel
theorem dX5_shade_47 : decode cX5_shade 47 = .ok (.iload_n 2, 1) := by decide +kernel
theorem dX5_shade_48 : decode cX5_shade 48 = .ok (.if_icmp .gt 59, 3) := by decide +kernel
theorem dX5_shade_51 : decode cX5_shade 51 = .ok (.aload_n 0, 1) := by decide +kernel
theorem dX5_shade_52 : decode cX5_shade 52 = .ok (.getfield 59, 3) := by decide +kernel
theorem dX5_shade_55 : decode cX5_shade 55 = .ok (.iload 5, 2) := by decide +kernel
theorem dX5_shade_57 : decode cX5_shade 57 = .ok (.aaload, 1) := by decide +kernel
theorem dX5_shade_58 : decode cX5_shade 58 = .ok (.getfield 99, 3) := by decide +kernel
theorem dX5_shade_61 : decode cX5_shade 61 = .ok (.istore 6, 2) := by decide +kernel
theorem dX5_shade_63 : decode cX5_shade 63 = .ok (.aload_n 0, 1) := by decide +kernel
theorem dX5_shade_64 : decode cX5_shade 64 = .ok (.getfield 59, 3) := by decide +kernel
theorem dX5_shade_67 : decode cX5_shade 67 = .ok (.iload 5, 2) := by decide +kernel
theorem dX5_shade_69 : decode cX5_shade 69 = .ok (.aaload, 1) := by decide +kernel
theorem dX5_shade_70 : decode cX5_shade 70 = .ok (.iload 6, 2) := by decide +kernel
theorem dX5_shade_72 : decode cX5_shade 72 = .ok (.bipush 100, 2) := by decide +kernel
theorem dX5_shade_74 : decode cX5_shade 74 = .ok (.iload_n 3, 1) := by decide +kernel
theorem dX5_shade_75 : decode cX5_shade 75 = .ok (.isub, 1) := by decide +kernel
theorem dX5_shade_76 : decode cX5_shade 76 = .ok (.imul, 1) := by decide +kernel
theorem dX5_shade_77 : decode cX5_shade 77 = .ok (.bipush 100, 2) := by decide +kernel
theorem dX5_shade_79 : decode cX5_shade 79 = .ok (.idiv, 1) := by decide +kernel
theorem dX5_shade_80 : decode cX5_shade 80 = .ok (.invokevirtual 88, 3) := by decide +kernel
theorem dX5_shade_83 : decode cX5_shade 83 = .ok (.aload_n 0, 1) := by decide +kernel
theorem dX5_shade_84 : decode cX5_shade 84 = .ok (.getfield 59, 3) := by decide +kernel
theorem dX5_shade_87 : decode cX5_shade 87 = .ok (.iload 5, 2) := by decide +kernel
theorem dX5_shade_89 : decode cX5_shade 89 = .ok (.aaload, 1) := by decide +kernel
theorem dX5_shade_90 : decode cX5_shade 90 = .ok (.getfield 99, 3) := by decide +kernel
theorem dX5_shade_93 : decode cX5_shade 93 = .ok (.iload 6, 2) := by decide +kernel
theorem dX5_shade_95 : decode cX5_shade 95 = .ok (.if_icmp .eq 6, 3) := by decide +kernel
theorem dX5_shade_98 : decode cX5_shade 98 = .ok (.iinc 4 1, 3) := by decide +kernel
theorem dX5_shade_101 : decode cX5_shade 101 = .ok (.iinc 5 1, 3) := by decide +kernel
theorem dX5_shade_104 : decode cX5_shade 104 = .ok (.goto (-59), 3) := by decide +kernel
theorem dX5_shade_107 : decode cX5_shade 107 = .ok (.iload 4, 2) := by decide +kernel
theorem dX5_shade_109 : decode cX5_shade 109 = .ok (.ireturn, 1) := by decide +kernel
theorem dX5_setResistance_0 : decode cX5_setResistance 0 = .ok (.aload_n 0, 1) := by decide +kernel
theorem dX5_setResistance_1 : decode cX5_setResistance 1 = .ok (.iload_n 1, 1) := by decide +kernel
theorem dX5_setResistance_2 : decode cX5_setResistance 2 = .ok (.invokevirtual 96, 3) := by decide +kernel
theorem dX5_setResistance_5 : decode cX5_setResistance 5 = .ok (.ifCond .ne 7, 3) := by decide +kernel
theorem dX5_setResistance_8 : decode cX5_setResistance 8 = .ok (.sipush (-1002), 3) := by decide +kernel
theorem dX5_setResistance_11 : decode cX5_setResistance 11 = .ok (.ireturn, 1) := by decide +kernel
theorem dX5_setResistance_12 : decode cX5_setResistance 12 = .ok (.iload_n 2, 1) := by decide +kernel
theorem dX5_setResistance_13 : decode cX5_setResistance 13 = .ok (.iconst 0, 1) := by decide +kernel
theorem dX5_setResistance_14 : decode cX5_setResistance 14 = .ok (.sipush 5000, 3) := by decide +kernel
theorem dX5_setResistance_17 : decode cX5_setResistance 17 = .ok (.invokestatic 74, 3) := by decide +kernel
theorem dX5_setResistance_20 : decode cX5_setResistance 20 = .ok (.ifCond .ne 7, 3) := by decide +kernel
theorem dX5_setResistance_23 : decode cX5_setResistance 23 = .ok (.sipush (-1003), 3) := by decide +kernel
theorem dX5_setResistance_26 : decode cX5_setResistance 26 = .ok (.ireturn, 1) := by decide +kernel
theorem dX5_setResistance_27 : decode cX5_setResistance 27 = .ok (.aload_n 0, 1) := by decide +kernel
theorem dX5_setResistance_28 : decode cX5_setResistance 28 = .ok (.getfield 59, 3) := by decide +kernel
theorem dX5_setResistance_31 : decode cX5_setResistance 31 = .ok (.iload_n 1, 1) := by decide +kernel
theorem dX5_setResistance_32 : decode cX5_setResistance 32 = .ok (.aaload, 1) := by decide +kernel
theorem dX5_setResistance_33 : decode cX5_setResistance 33 = .ok (.getfield 102, 3) := by decide +kernel
theorem dX5_setResistance_36 : decode cX5_setResistance 36 = .ok (.istore_n 3, 1) := by decide +kernel
theorem dX5_setResistance_37 : decode cX5_setResistance 37 = .ok (.aload_n 0, 1) := by decide +kernel
theorem dX5_setResistance_38 : decode cX5_setResistance 38 = .ok (.getfield 59, 3) := by decide +kernel
theorem dX5_setResistance_41 : decode cX5_setResistance 41 = .ok (.iload_n 1, 1) := by decide +kernel
theorem dX5_setResistance_42 : decode cX5_setResistance 42 = .ok (.aaload, 1) := by decide +kernel
theorem dX5_setResistance_43 : decode cX5_setResistance 43 = .ok (.iload_n 2, 1) := by decide +kernel
theorem dX5_setResistance_44 : decode cX5_setResistance 44 = .ok (.putfield 102, 3) := by decide +kernel
theorem dX5_setResistance_47 : decode cX5_setResistance 47 = .ok (.iload_n 3, 1) := by decide +kernel
theorem dX5_setResistance_48 : decode cX5_setResistance 48 = .ok (.ireturn, 1) := by decide +kernel
theorem dX5_setBypassDiode_0 : decode cX5_setBypassDiode 0 = .ok (.aload_n 0, 1) := by decide +kernel
theorem dX5_setBypassDiode_1 : decode cX5_setBypassDiode 1 = .ok (.iload_n 1, 1) := by decide +kernel
theorem dX5_setBypassDiode_2 : decode cX5_setBypassDiode 2 = .ok (.invokevirtual 96, 3) := by decide +kernel
theorem dX5_setBypassDiode_5 : decode cX5_setBypassDiode 5 = .ok (.ifCond .ne 7, 3) := by decide +kernel
theorem dX5_setBypassDiode_8 : decode cX5_setBypassDiode 8 = .ok (.sipush (-1002), 3) := by decide +kernel
theorem dX5_setBypassDiode_11 : decode cX5_setBypassDiode 11 = .ok (.ireturn, 1) := by decide +kernel
theorem dX5_setBypassDiode_12 : decode cX5_setBypassDiode 12 = .ok (.aload_n 0, 1) := by decide +kernel
theorem dX5_setBypassDiode_13 : decode cX5_setBypassDiode 13 = .ok (.getfield 59, 3) := by decide +kernel
theorem dX5_setBypassDiode_16 : decode cX5_setBypassDiode 16 = .ok (.iload_n 1, 1) := by decide +kernel
theorem dX5_setBypassDiode_17 : decode cX5_setBypassDiode 17 = .ok (.aaload, 1) := by decide +kernel
theorem dX5_setBypassDiode_18 : decode cX5_setBypassDiode 18 = .ok (.getfield 105, 3) := by decide +kernel
theorem dX5_setBypassDiode_21 : decode cX5_setBypassDiode 21 = .ok (.iload_n 2, 1) := by decide +kernel
theorem dX5_setBypassDiode_22 : decode cX5_setBypassDiode 22 = .ok (.if_icmp .ne 5, 3) := by decide +kernel
theorem dX5_setBypassDiode_25 : decode cX5_setBypassDiode 25 = .ok (.iconst 0, 1) := by decide +kernel
theorem dX5_setBypassDiode_26 : decode cX5_setBypassDiode 26 = .ok (.ireturn, 1) := by decide +kernel
theorem dX5_setBypassDiode_27 : decode cX5_setBypassDiode 27 = .ok (.aload_n 0, 1) := by decide +kernel
theorem dX5_setBypassDiode_28 : decode cX5_setBypassDiode 28 = .ok (.getfield 59, 3) := by decide +kernel
theorem dX5_setBypassDiode_31 : decode cX5_setBypassDiode 31 = .ok (.iload_n 1, 1) := by decide +kernel
theorem dX5_setBypassDiode_32 : decode cX5_setBypassDiode 32 = .ok (.aaload, 1) := by decide +kernel
theorem dX5_setBypassDiode_33 : decode cX5_setBypassDiode 33 = .ok (.iload_n 2, 1) := by decide +kernel
theorem dX5_setBypassDiode_34 : decode cX5_setBypassDiode 34 = .ok (.putfield 105, 3) := by decide +kernel
theorem dX5_setBypassDiode_37 : decode cX5_setBypassDiode 37 = .ok (.iconst 1, 1) := by decide +kernel
theorem dX5_setBypassDiode_38 : decode cX5_setBypassDiode 38 = .ok (.ireturn, 1) := by decide +kernel
theorem dX5_setDiodeDrop_0 : decode cX5_setDiodeDrop 0 = .ok (.iload_n 1, 1) := by decide +kernel
theorem dX5_setDiodeDrop_1 : decode cX5_setDiodeDrop 1 = .ok (.iconst 0, 1) := by decide +kernel
theorem dX5_setDiodeDrop_2 : decode cX5_setDiodeDrop 2 = .ok (.bipush 20, 2) := by decide +kernel
theorem dX5_setDiodeDrop_4 : decode cX5_setDiodeDrop 4 = .ok (.invokestatic 74, 3) := by decide +kernel
theorem dX5_setDiodeDrop_7 : decode cX5_setDiodeDrop 7 = .ok (.ifCond .ne 7, 3) := by decide +kernel
theorem dX5_setDiodeDrop_10 : decode cX5_setDiodeDrop 10 = .ok (.sipush (-1003), 3) := by decide +kernel
theorem dX5_setDiodeDrop_13 : decode cX5_setDiodeDrop 13 = .ok (.ireturn, 1) := by decide +kernel
theorem dX5_setDiodeDrop_14 : decode cX5_setDiodeDrop 14 = .ok (.aload_n 0, 1) := by decide +kernel
theorem dX5_setDiodeDrop_15 : decode cX5_setDiodeDrop 15 = .ok (.getfield 55, 3) := by decide +kernel
theorem dX5_setDiodeDrop_18 : decode cX5_setDiodeDrop 18 = .ok (.getfield 109, 3) := by decide +kernel
theorem dX5_setDiodeDrop_21 : decode cX5_setDiodeDrop 21 = .ok (.istore_n 2, 1) := by decide +kernel
theorem dX5_setDiodeDrop_22 : decode cX5_setDiodeDrop 22 = .ok (.aload_n 0, 1) := by decide +kernel
theorem dX5_setDiodeDrop_23 : decode cX5_setDiodeDrop 23 = .ok (.getfield 55, 3) := by decide +kernel
theorem dX5_setDiodeDrop_26 : decode cX5_setDiodeDrop 26 = .ok (.iload_n 1, 1) := by decide +kernel
theorem dX5_setDiodeDrop_27 : decode cX5_setDiodeDrop 27 = .ok (.putfield 109, 3) := by decide +kernel
theorem dX5_setDiodeDrop_30 : decode cX5_setDiodeDrop 30 = .ok (.iload_n 2, 1) := by decide +kernel
theorem dX5_setDiodeDrop_31 : decode cX5_setDiodeDrop 31 = .ok (.ireturn, 1) := by decide +kernel
theorem dX5_moveModule_0 : decode cX5_moveModule 0 = .ok (.aload_n 0, 1) := by decide +kernel
theorem dX5_moveModule_1 : decode cX5_moveModule 1 = .ok (.iload_n 1, 1) := by decide +kernel
theorem dX5_moveModule_2 : decode cX5_moveModule 2 = .ok (.invokevirtual 96, 3) := by decide +kernel
theorem dX5_moveModule_5 : decode cX5_moveModule 5 = .ok (.ifCond .ne 7, 3) := by decide +kernel
theorem dX5_moveModule_8 : decode cX5_moveModule 8 = .ok (.sipush (-1002), 3) := by decide +kernel
theorem dX5_moveModule_11 : decode cX5_moveModule 11 = .ok (.ireturn, 1) := by decide +kernel
theorem dX5_moveModule_12 : decode cX5_moveModule 12 = .ok (.aload_n 0, 1) := by decide +kernel
theorem dX5_moveModule_13 : decode cX5_moveModule 13 = .ok (.iload_n 2, 1) := by decide +kernel
theorem dX5_moveModule_14 : decode cX5_moveModule 14 = .ok (.invokevirtual 70, 3) := by decide +kernel
theorem dX5_moveModule_17 : decode cX5_moveModule 17 = .ok (.ifCond .ne 7, 3) := by decide +kernel
theorem dX5_moveModule_20 : decode cX5_moveModule 20 = .ok (.sipush (-1001), 3) := by decide +kernel
theorem dX5_moveModule_23 : decode cX5_moveModule 23 = .ok (.ireturn, 1) := by decide +kernel
theorem dX5_moveModule_24 : decode cX5_moveModule 24 = .ok (.aload_n 0, 1) := by decide +kernel
theorem dX5_moveModule_25 : decode cX5_moveModule 25 = .ok (.getfield 59, 3) := by decide +kernel
theorem dX5_moveModule_28 : decode cX5_moveModule 28 = .ok (.iload_n 1, 1) := by decide +kernel
theorem dX5_moveModule_29 : decode cX5_moveModule 29 = .ok (.aaload, 1) := by decide +kernel
theorem dX5_moveModule_30 : decode cX5_moveModule 30 = .ok (.getfield 112, 3) := by decide +kernel
theorem dX5_moveModule_33 : decode cX5_moveModule 33 = .ok (.iload_n 2, 1) := by decide +kernel
theorem dX5_moveModule_34 : decode cX5_moveModule 34 = .ok (.if_icmp .eq 19, 3) := by decide +kernel
theorem dX5_moveModule_37 : decode cX5_moveModule 37 = .ok (.aload_n 0, 1) := by decide +kernel
theorem dX5_moveModule_38 : decode cX5_moveModule 38 = .ok (.getfield 63, 3) := by decide +kernel
theorem dX5_moveModule_41 : decode cX5_moveModule 41 = .ok (.iload_n 2, 1) := by decide +kernel
theorem dX5_moveModule_42 : decode cX5_moveModule 42 = .ok (.aaload, 1) := by decide +kernel
theorem dX5_moveModule_43 : decode cX5_moveModule 43 = .ok (.invokevirtual 78, 3) := by decide +kernel
theorem dX5_moveModule_46 : decode cX5_moveModule 46 = .ok (.ifCond .eq 7, 3) := by decide +kernel
theorem dX5_moveModule_49 : decode cX5_moveModule 49 = .ok (.sipush (-1004), 3) := by decide +kernel
theorem dX5_moveModule_52 : decode cX5_moveModule 52 = .ok (.ireturn, 1) := by decide +kernel
theorem dX5_moveModule_53 : decode cX5_moveModule 53 = .ok (.aload_n 0, 1) := by decide +kernel
theorem dX5_moveModule_54 : decode cX5_moveModule 54 = .ok (.iload_n 1, 1) := by decide +kernel
theorem dX5_moveModule_55 : decode cX5_moveModule 55 = .ok (.invokevirtual 115, 3) := by decide +kernel
theorem dX5_moveModule_58 : decode cX5_moveModule 58 = .ok (.aload_n 0, 1) := by decide +kernel
theorem dX5_moveModule_59 : decode cX5_moveModule 59 = .ok (.iload_n 1, 1) := by decide +kernel
theorem dX5_moveModule_60 : decode cX5_moveModule 60 = .ok (.iload_n 2, 1) := by decide +kernel
theorem dX5_moveModule_61 : decode cX5_moveModule 61 = .ok (.invokevirtual 92, 3) := by decide +kernel
theorem dX5_moveModule_64 : decode cX5_moveModule 64 = .ok (.ireturn, 1) := by decide +kernel
theorem dX5_swapModules_0 : decode cX5_swapModules 0 = .ok (.aload_n 0, 1) := by decide +kernel
theorem dX5_swapModules_1 : decode cX5_swapModules 1 = .ok (.iload_n 1, 1) := by decide +kernel
theorem dX5_swapModules_2 : decode cX5_swapModules 2 = .ok (.invokevirtual 96, 3) := by decide +kernel
theorem dX5_swapModules_5 : decode cX5_swapModules 5 = .ok (.ifCond .eq 11, 3) := by decide +kernel
theorem dX5_swapModules_8 : decode cX5_swapModules 8 = .ok (.aload_n 0, 1) := by decide +kernel
theorem dX5_swapModules_9 : decode cX5_swapModules 9 = .ok (.iload_n 2, 1) := by decide +kernel
theorem dX5_swapModules_10 : decode cX5_swapModules 10 = .ok (.invokevirtual 96, 3) := by decide +kernel
theorem dX5_swapModules_13 : decode cX5_swapModules 13 = .ok (.ifCond .ne 7, 3) := by decide +kernel
theorem dX5_swapModules_16 : decode cX5_swapModules 16 = .ok (.sipush (-1002), 3) := by decide +kernel
theorem dX5_swapModules_19 : decode cX5_swapModules 19 = .ok (.ireturn, 1) := by decide +kernel
theorem dX5_swapModules_20 : decode cX5_swapModules 20 = .ok (.aload_n 0, 1) := by decide +kernel
theorem dX5_swapModules_21 : decode cX5_swapModules 21 = .ok (.iload_n 1, 1) := by decide +kernel
theorem dX5_swapModules_22 : decode cX5_swapModules 22 = .ok (.iload_n 2, 1) := by decide +kernel
theorem dX5_swapModules_23 : decode cX5_swapModules 23 = .ok (.invokevirtual 118, 3) := by decide +kernel
theorem dX5_swapModules_26 : decode cX5_swapModules 26 = .ok (.aload_n 0, 1) := by decide +kernel
theorem dX5_swapModules_27 : decode cX5_swapModules 27 = .ok (.getfield 59, 3) := by decide +kernel
theorem dX5_swapModules_30 : decode cX5_swapModules 30 = .ok (.iload_n 1, 1) := by decide +kernel
theorem dX5_swapModules_31 : decode cX5_swapModules 31 = .ok (.aaload, 1) := by decide +kernel
theorem dX5_swapModules_32 : decode cX5_swapModules 32 = .ok (.getfield 112, 3) := by decide +kernel
theorem dX5_swapModules_35 : decode cX5_swapModules 35 = .ok (.aload_n 0, 1) := by decide +kernel
theorem dX5_swapModules_36 : decode cX5_swapModules 36 = .ok (.getfield 59, 3) := by decide +kernel
theorem dX5_swapModules_39 : decode cX5_swapModules 39 = .ok (.iload_n 2, 1) := by decide +kernel
theorem dX5_swapModules_40 : decode cX5_swapModules 40 = .ok (.aaload, 1) := by decide +kernel
theorem dX5_swapModules_41 : decode cX5_swapModules 41 = .ok (.getfield 112, 3) := by decide +kernel
theorem dX5_swapModules_44 : decode cX5_swapModules 44 = .ok (.if_icmp .eq 7, 3) := by decide +kernel
theorem dX5_swapModules_47 : decode cX5_swapModules 47 = .ok (.iconst 1, 1) := by decide +kernel
theorem dX5_swapModules_48 : decode cX5_swapModules 48 = .ok (.goto 4, 3) := by decide +kernel
theorem dX5_swapModules_51 : decode cX5_swapModules 51 = .ok (.iconst 0, 1) := by decide +kernel
theorem dX5_swapModules_52 : decode cX5_swapModules 52 = .ok (.ireturn, 1) := by decide +kernel
theorem dX5_stringOf_0 : decode cX5_stringOf 0 = .ok (.aload_n 0, 1) := by decide +kernel
theorem dX5_stringOf_1 : decode cX5_stringOf 1 = .ok (.iload_n 1, 1) := by decide +kernel
theorem dX5_stringOf_2 : decode cX5_stringOf 2 = .ok (.invokevirtual 96, 3) := by decide +kernel
theorem dX5_stringOf_5 : decode cX5_stringOf 5 = .ok (.ifCond .eq 15, 3) := by decide +kernel
theorem dX5_stringOf_8 : decode cX5_stringOf 8 = .ok (.aload_n 0, 1) := by decide +kernel
theorem dX5_stringOf_9 : decode cX5_stringOf 9 = .ok (.getfield 59, 3) := by decide +kernel
theorem dX5_stringOf_12 : decode cX5_stringOf 12 = .ok (.iload_n 1, 1) := by decide +kernel
theorem dX5_stringOf_13 : decode cX5_stringOf 13 = .ok (.aaload, 1) := by decide +kernel
theorem dX5_stringOf_14 : decode cX5_stringOf 14 = .ok (.getfield 112, 3) := by decide +kernel
theorem dX5_stringOf_17 : decode cX5_stringOf 17 = .ok (.goto 6, 3) := by decide +kernel
theorem dX5_stringOf_20 : decode cX5_stringOf 20 = .ok (.sipush (-1002), 3) := by decide +kernel
theorem dX5_stringOf_23 : decode cX5_stringOf 23 = .ok (.ireturn, 1) := by decide +kernel
theorem dX5_moduleAt_0 : decode cX5_moduleAt 0 = .ok (.aload_n 0, 1) := by decide +kernel
theorem dX5_moduleAt_1 : decode cX5_moduleAt 1 = .ok (.iload_n 1, 1) := by decide +kernel
theorem dX5_moduleAt_2 : decode cX5_moduleAt 2 = .ok (.invokevirtual 70, 3) := by decide +kernel
theorem dX5_moduleAt_5 : decode cX5_moduleAt 5 = .ok (.ifCond .ne 7, 3) := by decide +kernel
theorem dX5_moduleAt_8 : decode cX5_moduleAt 8 = .ok (.sipush (-1001), 3) := by decide +kernel
theorem dX5_moduleAt_11 : decode cX5_moduleAt 11 = .ok (.ireturn, 1) := by decide +kernel
theorem dX5_moduleAt_12 : decode cX5_moduleAt 12 = .ok (.iload_n 2, 1) := by decide +kernel
theorem dX5_moduleAt_13 : decode cX5_moduleAt 13 = .ok (.ifCond .ge 7, 3) := by decide +kernel
theorem dX5_moduleAt_16 : decode cX5_moduleAt 16 = .ok (.sipush (-1003), 3) := by decide +kernel
theorem dX5_moduleAt_19 : decode cX5_moduleAt 19 = .ok (.ireturn, 1) := by decide +kernel
theorem dX5_moduleAt_20 : decode cX5_moduleAt 20 = .ok (.iload_n 2, 1) := by decide +kernel
theorem dX5_moduleAt_21 : decode cX5_moduleAt 21 = .ok (.aload_n 0, 1) := by decide +kernel
theorem dX5_moduleAt_22 : decode cX5_moduleAt 22 = .ok (.getfield 63, 3) := by decide +kernel
theorem dX5_moduleAt_25 : decode cX5_moduleAt 25 = .ok (.iload_n 1, 1) := by decide +kernel
theorem dX5_moduleAt_26 : decode cX5_moduleAt 26 = .ok (.aaload, 1) := by decide +kernel
theorem dX5_moduleAt_27 : decode cX5_moduleAt 27 = .ok (.getfield 122, 3) := by decide +kernel
theorem dX5_moduleAt_30 : decode cX5_moduleAt 30 = .ok (.if_icmp .ge 17, 3) := by decide +kernel
theorem dX5_moduleAt_33 : decode cX5_moduleAt 33 = .ok (.aload_n 0, 1) := by decide +kernel
theorem dX5_moduleAt_34 : decode cX5_moduleAt 34 = .ok (.getfield 63, 3) := by decide +kernel
theorem dX5_moduleAt_37 : decode cX5_moduleAt 37 = .ok (.iload_n 1, 1) := by decide +kernel
theorem dX5_moduleAt_38 : decode cX5_moduleAt 38 = .ok (.aaload, 1) := by decide +kernel
theorem dX5_moduleAt_39 : decode cX5_moduleAt 39 = .ok (.getfield 123, 3) := by decide +kernel
theorem dX5_moduleAt_42 : decode cX5_moduleAt 42 = .ok (.iload_n 2, 1) := by decide +kernel
theorem dX5_moduleAt_43 : decode cX5_moduleAt 43 = .ok (.iaload, 1) := by decide +kernel
theorem dX5_moduleAt_44 : decode cX5_moduleAt 44 = .ok (.goto 6, 3) := by decide +kernel
theorem dX5_moduleAt_47 : decode cX5_moduleAt 47 = .ok (.sipush (-1005), 3) := by decide +kernel
theorem dX5_moduleAt_50 : decode cX5_moduleAt 50 = .ok (.ireturn, 1) := by decide +kernel
theorem dX5_photocurrent_0 : decode cX5_photocurrent 0 = .ok (.aload_n 0, 1) := by decide +kernel
theorem dX5_photocurrent_1 : decode cX5_photocurrent 1 = .ok (.iload_n 1, 1) := by decide +kernel
theorem dX5_photocurrent_2 : decode cX5_photocurrent 2 = .ok (.invokevirtual 96, 3) := by decide +kernel
theorem dX5_photocurrent_5 : decode cX5_photocurrent 5 = .ok (.ifCond .eq 15, 3) := by decide +kernel
theorem dX5_photocurrent_8 : decode cX5_photocurrent 8 = .ok (.aload_n 0, 1) := by decide +kernel
theorem dX5_photocurrent_9 : decode cX5_photocurrent 9 = .ok (.getfield 59, 3) := by decide +kernel
theorem dX5_photocurrent_12 : decode cX5_photocurrent 12 = .ok (.iload_n 1, 1) := by decide +kernel
theorem dX5_photocurrent_13 : decode cX5_photocurrent 13 = .ok (.aaload, 1) := by decide +kernel
theorem dX5_photocurrent_14 : decode cX5_photocurrent 14 = .ok (.getfield 126, 3) := by decide +kernel
theorem dX5_photocurrent_17 : decode cX5_photocurrent 17 = .ok (.goto 6, 3) := by decide +kernel
theorem dX5_photocurrent_20 : decode cX5_photocurrent 20 = .ok (.sipush (-1002), 3) := by decide +kernel
theorem dX5_photocurrent_23 : decode cX5_photocurrent 23 = .ok (.ireturn, 1) := by decide +kernel
theorem dX5_moduleVoltage_0 : decode cX5_moduleVoltage 0 = .ok (.aload_n 0, 1) := by decide +kernel
theorem dX5_moduleVoltage_1 : decode cX5_moduleVoltage 1 = .ok (.iload_n 1, 1) := by decide +kernel
theorem dX5_moduleVoltage_2 : decode cX5_moduleVoltage 2 = .ok (.invokevirtual 96, 3) := by decide +kernel
theorem dX5_moduleVoltage_5 : decode cX5_moduleVoltage 5 = .ok (.ifCond .ne 7, 3) := by decide +kernel
theorem dX5_moduleVoltage_8 : decode cX5_moduleVoltage 8 = .ok (.sipush (-1002), 3) := by decide +kernel
theorem dX5_moduleVoltage_11 : decode cX5_moduleVoltage 11 = .ok (.ireturn, 1) := by decide +kernel
theorem dX5_moduleVoltage_12 : decode cX5_moduleVoltage 12 = .ok (.iload_n 2, 1) := by decide +kernel
theorem dX5_moduleVoltage_13 : decode cX5_moduleVoltage 13 = .ok (.iconst 0, 1) := by decide +kernel
theorem dX5_moduleVoltage_14 : decode cX5_moduleVoltage 14 = .ok (.sipush 1200, 3) := by decide +kernel
theorem dX5_moduleVoltage_17 : decode cX5_moduleVoltage 17 = .ok (.invokestatic 74, 3) := by decide +kernel
theorem dX5_moduleVoltage_20 : decode cX5_moduleVoltage 20 = .ok (.ifCond .ne 7, 3) := by decide +kernel
theorem dX5_moduleVoltage_23 : decode cX5_moduleVoltage 23 = .ok (.sipush (-1003), 3) := by decide +kernel
theorem dX5_moduleVoltage_26 : decode cX5_moduleVoltage 26 = .ok (.ireturn, 1) := by decide +kernel
theorem dX5_moduleVoltage_27 : decode cX5_moduleVoltage 27 = .ok (.iload_n 2, 1) := by decide +kernel
theorem dX5_moduleVoltage_28 : decode cX5_moduleVoltage 28 = .ok (.aload_n 0, 1) := by decide +kernel
theorem dX5_moduleVoltage_29 : decode cX5_moduleVoltage 29 = .ok (.getfield 59, 3) := by decide +kernel
theorem dX5_moduleVoltage_32 : decode cX5_moduleVoltage 32 = .ok (.iload_n 1, 1) := by decide +kernel
theorem dX5_moduleVoltage_33 : decode cX5_moduleVoltage 33 = .ok (.aaload, 1) := by decide +kernel
theorem dX5_moduleVoltage_34 : decode cX5_moduleVoltage 34 = .ok (.getfield 126, 3) := by decide +kernel
theorem dX5_moduleVoltage_37 : decode cX5_moduleVoltage 37 = .ok (.if_icmp .le 19, 3) := by decide +kernel
theorem dX5_moduleVoltage_40 : decode cX5_moduleVoltage 40 = .ok (.aload_n 0, 1) := by decide +kernel
theorem dX5_moduleVoltage_41 : decode cX5_moduleVoltage 41 = .ok (.getfield 59, 3) := by decide +kernel
theorem dX5_moduleVoltage_44 : decode cX5_moduleVoltage 44 = .ok (.iload_n 1, 1) := by decide +kernel
theorem dX5_moduleVoltage_45 : decode cX5_moduleVoltage 45 = .ok (.aaload, 1) := by decide +kernel
theorem dX5_moduleVoltage_46 : decode cX5_moduleVoltage 46 = .ok (.getfield 105, 3) := by decide +kernel
theorem dX5_moduleVoltage_49 : decode cX5_moduleVoltage 49 = .ok (.ifCond .ne 7, 3) := by decide +kernel
theorem dX5_moduleVoltage_52 : decode cX5_moduleVoltage 52 = .ok (.sipush (-1005), 3) := by decide +kernel
theorem dX5_moduleVoltage_55 : decode cX5_moduleVoltage 55 = .ok (.ireturn, 1) := by decide +kernel
theorem dX5_moduleVoltage_56 : decode cX5_moduleVoltage 56 = .ok (.aload_n 0, 1) := by decide +kernel
theorem dX5_moduleVoltage_57 : decode cX5_moduleVoltage 57 = .ok (.getfield 59, 3) := by decide +kernel
theorem dX5_moduleVoltage_60 : decode cX5_moduleVoltage 60 = .ok (.iload_n 1, 1) := by decide +kernel
theorem dX5_moduleVoltage_61 : decode cX5_moduleVoltage 61 = .ok (.aaload, 1) := by decide +kernel
theorem dX5_moduleVoltage_62 : decode cX5_moduleVoltage 62 = .ok (.iload_n 2, 1) := by decide +kernel
theorem dX5_moduleVoltage_63 : decode cX5_moduleVoltage 63 = .ok (.invokevirtual 129, 3) := by decide +kernel
theorem dX5_moduleVoltage_66 : decode cX5_moduleVoltage 66 = .ok (.ireturn, 1) := by decide +kernel
theorem dX5_modulePeakPower_0 : decode cX5_modulePeakPower 0 = .ok (.aload_n 0, 1) := by decide +kernel
theorem dX5_modulePeakPower_1 : decode cX5_modulePeakPower 1 = .ok (.iload_n 1, 1) := by decide +kernel
theorem dX5_modulePeakPower_2 : decode cX5_modulePeakPower 2 = .ok (.invokevirtual 96, 3) := by decide +kernel
theorem dX5_modulePeakPower_5 : decode cX5_modulePeakPower 5 = .ok (.ifCond .eq 15, 3) := by decide +kernel
theorem dX5_modulePeakPower_8 : decode cX5_modulePeakPower 8 = .ok (.aload_n 0, 1) := by decide +kernel
theorem dX5_modulePeakPower_9 : decode cX5_modulePeakPower 9 = .ok (.getfield 59, 3) := by decide +kernel
theorem dX5_modulePeakPower_12 : decode cX5_modulePeakPower 12 = .ok (.iload_n 1, 1) := by decide +kernel
theorem dX5_modulePeakPower_13 : decode cX5_modulePeakPower 13 = .ok (.aaload, 1) := by decide +kernel
theorem dX5_modulePeakPower_14 : decode cX5_modulePeakPower 14 = .ok (.invokevirtual 133, 3) := by decide +kernel
theorem dX5_modulePeakPower_17 : decode cX5_modulePeakPower 17 = .ok (.goto 6, 3) := by decide +kernel
theorem dX5_modulePeakPower_20 : decode cX5_modulePeakPower 20 = .ok (.ldc2_w 137, 3) := by decide +kernel
theorem dX5_modulePeakPower_23 : decode cX5_modulePeakPower 23 = .ok (.lreturn, 1) := by decide +kernel
theorem dX5_currentLimit_0 : decode cX5_currentLimit 0 = .ok (.aload_n 0, 1) := by decide +kernel
theorem dX5_currentLimit_1 : decode cX5_currentLimit 1 = .ok (.iload_n 1, 1) := by decide +kernel
theorem dX5_currentLimit_2 : decode cX5_currentLimit 2 = .ok (.invokevirtual 70, 3) := by decide +kernel
theorem dX5_currentLimit_5 : decode cX5_currentLimit 5 = .ok (.ifCond .eq 15, 3) := by decide +kernel
theorem dX5_currentLimit_8 : decode cX5_currentLimit 8 = .ok (.aload_n 0, 1) := by decide +kernel
theorem dX5_currentLimit_9 : decode cX5_currentLimit 9 = .ok (.getfield 63, 3) := by decide +kernel
theorem dX5_currentLimit_12 : decode cX5_currentLimit 12 = .ok (.iload_n 1, 1) := by decide +kernel
theorem dX5_currentLimit_13 : decode cX5_currentLimit 13 = .ok (.aaload, 1) := by decide +kernel
theorem dX5_currentLimit_14 : decode cX5_currentLimit 14 = .ok (.invokevirtual 139, 3) := by decide +kernel
theorem dX5_currentLimit_17 : decode cX5_currentLimit 17 = .ok (.goto 6, 3) := by decide +kernel
theorem dX5_currentLimit_20 : decode cX5_currentLimit 20 = .ok (.sipush (-1001), 3) := by decide +kernel
theorem dX5_currentLimit_23 : decode cX5_currentLimit 23 = .ok (.ireturn, 1) := by decide +kernel
theorem dX5_stringVoltage_0 : decode cX5_stringVoltage 0 = .ok (.aload_n 0, 1) := by decide +kernel
theorem dX5_stringVoltage_1 : decode cX5_stringVoltage 1 = .ok (.iload_n 1, 1) := by decide +kernel
theorem dX5_stringVoltage_2 : decode cX5_stringVoltage 2 = .ok (.invokevirtual 70, 3) := by decide +kernel
theorem dX5_stringVoltage_5 : decode cX5_stringVoltage 5 = .ok (.ifCond .ne 7, 3) := by decide +kernel
theorem dX5_stringVoltage_8 : decode cX5_stringVoltage 8 = .ok (.sipush (-1001), 3) := by decide +kernel
theorem dX5_stringVoltage_11 : decode cX5_stringVoltage 11 = .ok (.ireturn, 1) := by decide +kernel
theorem dX5_stringVoltage_12 : decode cX5_stringVoltage 12 = .ok (.iload_n 2, 1) := by decide +kernel
theorem dX5_stringVoltage_13 : decode cX5_stringVoltage 13 = .ok (.iconst 0, 1) := by decide +kernel
theorem dX5_stringVoltage_14 : decode cX5_stringVoltage 14 = .ok (.aload_n 0, 1) := by decide +kernel
theorem dX5_stringVoltage_15 : decode cX5_stringVoltage 15 = .ok (.getfield 63, 3) := by decide +kernel
theorem dX5_stringVoltage_18 : decode cX5_stringVoltage 18 = .ok (.iload_n 1, 1) := by decide +kernel
theorem dX5_stringVoltage_19 : decode cX5_stringVoltage 19 = .ok (.aaload, 1) := by decide +kernel
theorem dX5_stringVoltage_20 : decode cX5_stringVoltage 20 = .ok (.invokevirtual 139, 3) := by decide +kernel
theorem dX5_stringVoltage_23 : decode cX5_stringVoltage 23 = .ok (.invokestatic 74, 3) := by decide +kernel
theorem dX5_stringVoltage_26 : decode cX5_stringVoltage 26 = .ok (.ifCond .ne 7, 3) := by decide +kernel
theorem dX5_stringVoltage_29 : decode cX5_stringVoltage 29 = .ok (.sipush (-1003), 3) := by decide +kernel
theorem dX5_stringVoltage_32 : decode cX5_stringVoltage 32 = .ok (.ireturn, 1) := by decide +kernel
theorem dX5_stringVoltage_33 : decode cX5_stringVoltage 33 = .ok (.aload_n 0, 1) := by decide +kernel
theorem dX5_stringVoltage_34 : decode cX5_stringVoltage 34 = .ok (.getfield 63, 3) := by decide +kernel
theorem dX5_stringVoltage_37 : decode cX5_stringVoltage 37 = .ok (.iload_n 1, 1) := by decide +kernel
theorem dX5_stringVoltage_38 : decode cX5_stringVoltage 38 = .ok (.aaload, 1) := by decide +kernel
theorem dX5_stringVoltage_39 : decode cX5_stringVoltage 39 = .ok (.iload_n 2, 1) := by decide +kernel
theorem dX5_stringVoltage_40 : decode cX5_stringVoltage 40 = .ok (.invokevirtual 143, 3) := by decide +kernel
theorem dX5_stringVoltage_43 : decode cX5_stringVoltage 43 = .ok (.ireturn, 1) := by decide +kernel
theorem dX5_stringPower_0 : decode cX5_stringPower 0 = .ok (.aload_n 0, 1) := by decide +kernel
theorem dX5_stringPower_1 : decode cX5_stringPower 1 = .ok (.iload_n 1, 1) := by decide +kernel
theorem dX5_stringPower_2 : decode cX5_stringPower 2 = .ok (.invokevirtual 70, 3) := by decide +kernel
theorem dX5_stringPower_5 : decode cX5_stringPower 5 = .ok (.ifCond .eq 20, 3) := by decide +kernel
theorem dX5_stringPower_8 : decode cX5_stringPower 8 = .ok (.iload_n 2, 1) := by decide +kernel
theorem dX5_stringPower_9 : decode cX5_stringPower 9 = .ok (.iconst 0, 1) := by decide +kernel
theorem dX5_stringPower_10 : decode cX5_stringPower 10 = .ok (.aload_n 0, 1) := by decide +kernel
theorem dX5_stringPower_11 : decode cX5_stringPower 11 = .ok (.getfield 63, 3) := by decide +kernel
theorem dX5_stringPower_14 : decode cX5_stringPower 14 = .ok (.iload_n 1, 1) := by decide +kernel
theorem dX5_stringPower_15 : decode cX5_stringPower 15 = .ok (.aaload, 1) := by decide +kernel
theorem dX5_stringPower_16 : decode cX5_stringPower 16 = .ok (.invokevirtual 139, 3) := by decide +kernel
theorem dX5_stringPower_19 : decode cX5_stringPower 19 = .ok (.invokestatic 74, 3) := by decide +kernel
theorem dX5_stringPower_22 : decode cX5_stringPower 22 = .ok (.ifCond .ne 7, 3) := by decide +kernel
theorem dX5_stringPower_25 : decode cX5_stringPower 25 = .ok (.ldc2_w 137, 3) := by decide +kernel
theorem dX5_stringPower_28 : decode cX5_stringPower 28 = .ok (.lreturn, 1) := by decide +kernel
theorem dX5_stringPower_29 : decode cX5_stringPower 29 = .ok (.aload_n 0, 1) := by decide +kernel
theorem dX5_stringPower_30 : decode cX5_stringPower 30 = .ok (.getfield 63, 3) := by decide +kernel
theorem dX5_stringPower_33 : decode cX5_stringPower 33 = .ok (.iload_n 1, 1) := by decide +kernel
theorem dX5_stringPower_34 : decode cX5_stringPower 34 = .ok (.aaload, 1) := by decide +kernel
theorem dX5_stringPower_35 : decode cX5_stringPower 35 = .ok (.iload_n 2, 1) := by decide +kernel
theorem dX5_stringPower_36 : decode cX5_stringPower 36 = .ok (.invokevirtual 144, 3) := by decide +kernel
theorem dX5_stringPower_39 : decode cX5_stringPower 39 = .ok (.lreturn, 1) := by decide +kernel
theorem dX5_bypassedModules_0 : decode cX5_bypassedModules 0 = .ok (.aload_n 0, 1) := by decide +kernel
theorem dX5_bypassedModules_1 : decode cX5_bypassedModules 1 = .ok (.iload_n 1, 1) := by decide +kernel
theorem dX5_bypassedModules_2 : decode cX5_bypassedModules 2 = .ok (.invokevirtual 70, 3) := by decide +kernel
theorem dX5_bypassedModules_5 : decode cX5_bypassedModules 5 = .ok (.ifCond .ne 7, 3) := by decide +kernel
theorem dX5_bypassedModules_8 : decode cX5_bypassedModules 8 = .ok (.sipush (-1001), 3) := by decide +kernel
theorem dX5_bypassedModules_11 : decode cX5_bypassedModules 11 = .ok (.ireturn, 1) := by decide +kernel
theorem dX5_bypassedModules_12 : decode cX5_bypassedModules 12 = .ok (.iload_n 2, 1) := by decide +kernel
theorem dX5_bypassedModules_13 : decode cX5_bypassedModules 13 = .ok (.iconst 0, 1) := by decide +kernel
theorem dX5_bypassedModules_14 : decode cX5_bypassedModules 14 = .ok (.aload_n 0, 1) := by decide +kernel
theorem dX5_bypassedModules_15 : decode cX5_bypassedModules 15 = .ok (.getfield 63, 3) := by decide +kernel
theorem dX5_bypassedModules_18 : decode cX5_bypassedModules 18 = .ok (.iload_n 1, 1) := by decide +kernel
theorem dX5_bypassedModules_19 : decode cX5_bypassedModules 19 = .ok (.aaload, 1) := by decide +kernel
theorem dX5_bypassedModules_20 : decode cX5_bypassedModules 20 = .ok (.invokevirtual 139, 3) := by decide +kernel
theorem dX5_bypassedModules_23 : decode cX5_bypassedModules 23 = .ok (.invokestatic 74, 3) := by decide +kernel
theorem dX5_bypassedModules_26 : decode cX5_bypassedModules 26 = .ok (.ifCond .ne 7, 3) := by decide +kernel
theorem dX5_bypassedModules_29 : decode cX5_bypassedModules 29 = .ok (.sipush (-1003), 3) := by decide +kernel
theorem dX5_bypassedModules_32 : decode cX5_bypassedModules 32 = .ok (.ireturn, 1) := by decide +kernel
theorem dX5_bypassedModules_33 : decode cX5_bypassedModules 33 = .ok (.aload_n 0, 1) := by decide +kernel
theorem dX5_bypassedModules_34 : decode cX5_bypassedModules 34 = .ok (.getfield 63, 3) := by decide +kernel
theorem dX5_bypassedModules_37 : decode cX5_bypassedModules 37 = .ok (.iload_n 1, 1) := by decide +kernel
theorem dX5_bypassedModules_38 : decode cX5_bypassedModules 38 = .ok (.aaload, 1) := by decide +kernel
theorem dX5_bypassedModules_39 : decode cX5_bypassedModules 39 = .ok (.iload_n 2, 1) := by decide +kernel
theorem dX5_bypassedModules_40 : decode cX5_bypassedModules 40 = .ok (.invokevirtual 148, 3) := by decide +kernel
theorem dX5_bypassedModules_43 : decode cX5_bypassedModules 43 = .ok (.ireturn, 1) := by decide +kernel
theorem dX5_peakCount_0 : decode cX5_peakCount 0 = .ok (.aload_n 0, 1) := by decide +kernel
theorem dX5_peakCount_1 : decode cX5_peakCount 1 = .ok (.iload_n 1, 1) := by decide +kernel
theorem dX5_peakCount_2 : decode cX5_peakCount 2 = .ok (.invokevirtual 70, 3) := by decide +kernel
theorem dX5_peakCount_5 : decode cX5_peakCount 5 = .ok (.ifCond .ne 7, 3) := by decide +kernel
theorem dX5_peakCount_8 : decode cX5_peakCount 8 = .ok (.sipush (-1001), 3) := by decide +kernel
theorem dX5_peakCount_11 : decode cX5_peakCount 11 = .ok (.ireturn, 1) := by decide +kernel
theorem dX5_peakCount_12 : decode cX5_peakCount 12 = .ok (.aload_n 0, 1) := by decide +kernel
theorem dX5_peakCount_13 : decode cX5_peakCount 13 = .ok (.getfield 63, 3) := by decide +kernel
theorem dX5_peakCount_16 : decode cX5_peakCount 16 = .ok (.iload_n 1, 1) := by decide +kernel
theorem dX5_peakCount_17 : decode cX5_peakCount 17 = .ok (.aaload, 1) := by decide +kernel
theorem dX5_peakCount_18 : decode cX5_peakCount 18 = .ok (.invokevirtual 139, 3) := by decide +kernel
theorem dX5_peakCount_21 : decode cX5_peakCount 21 = .ok (.istore_n 2, 1) := by decide +kernel
theorem dX5_peakCount_22 : decode cX5_peakCount 22 = .ok (.iconst 0, 1) := by decide +kernel
theorem dX5_peakCount_23 : decode cX5_peakCount 23 = .ok (.istore_n 3, 1) := by decide +kernel
theorem dX5_peakCount_24 : decode cX5_peakCount 24 = .ok (.iconst 1, 1) := by decide +kernel
theorem dX5_peakCount_25 : decode cX5_peakCount 25 = .ok (.istore 4, 2) := by decide +kernel
theorem dX5_peakCount_27 : decode cX5_peakCount 27 = .ok (.iload 4, 2) := by decide +kernel
theorem dX5_peakCount_29 : decode cX5_peakCount 29 = .ok (.iload_n 2, 1) := by decide +kernel
theorem dX5_peakCount_30 : decode cX5_peakCount 30 = .ok (.if_icmp .gt 27, 3) := by decide +kernel
theorem dX5_peakCount_33 : decode cX5_peakCount 33 = .ok (.aload_n 0, 1) := by decide +kernel
theorem dX5_peakCount_34 : decode cX5_peakCount 34 = .ok (.getfield 63, 3) := by decide +kernel
theorem dX5_peakCount_37 : decode cX5_peakCount 37 = .ok (.iload_n 1, 1) := by decide +kernel
theorem dX5_peakCount_38 : decode cX5_peakCount 38 = .ok (.aaload, 1) := by decide +kernel
theorem dX5_peakCount_39 : decode cX5_peakCount 39 = .ok (.iload 4, 2) := by decide +kernel
theorem dX5_peakCount_41 : decode cX5_peakCount 41 = .ok (.iload_n 2, 1) := by decide +kernel
theorem dX5_peakCount_42 : decode cX5_peakCount 42 = .ok (.invokevirtual 151, 3) := by decide +kernel
theorem dX5_peakCount_45 : decode cX5_peakCount 45 = .ok (.ifCond .eq 6, 3) := by decide +kernel
theorem dX5_peakCount_48 : decode cX5_peakCount 48 = .ok (.iinc 3 1, 3) := by decide +kernel
theorem dX5_peakCount_51 : decode cX5_peakCount 51 = .ok (.iinc 4 1, 3) := by decide +kernel
theorem dX5_peakCount_54 : decode cX5_peakCount 54 = .ok (.goto (-27), 3) := by decide +kernel
theorem dX5_peakCount_57 : decode cX5_peakCount 57 = .ok (.iload_n 3, 1) := by decide +kernel
theorem dX5_peakCount_58 : decode cX5_peakCount 58 = .ok (.ireturn, 1) := by decide +kernel
theorem dX5_peakCurrent_0 : decode cX5_peakCurrent 0 = .ok (.aload_n 0, 1) := by decide +kernel
theorem dX5_peakCurrent_1 : decode cX5_peakCurrent 1 = .ok (.iload_n 1, 1) := by decide +kernel
theorem dX5_peakCurrent_2 : decode cX5_peakCurrent 2 = .ok (.invokevirtual 70, 3) := by decide +kernel
theorem dX5_peakCurrent_5 : decode cX5_peakCurrent 5 = .ok (.ifCond .ne 7, 3) := by decide +kernel
theorem dX5_peakCurrent_8 : decode cX5_peakCurrent 8 = .ok (.sipush (-1001), 3) := by decide +kernel
theorem dX5_peakCurrent_11 : decode cX5_peakCurrent 11 = .ok (.ireturn, 1) := by decide +kernel
theorem dX5_peakCurrent_12 : decode cX5_peakCurrent 12 = .ok (.iload_n 2, 1) := by decide +kernel
theorem dX5_peakCurrent_13 : decode cX5_peakCurrent 13 = .ok (.ifCond .ge 7, 3) := by decide +kernel
theorem dX5_peakCurrent_16 : decode cX5_peakCurrent 16 = .ok (.sipush (-1003), 3) := by decide +kernel
theorem dX5_peakCurrent_19 : decode cX5_peakCurrent 19 = .ok (.ireturn, 1) := by decide +kernel
theorem dX5_peakCurrent_20 : decode cX5_peakCurrent 20 = .ok (.aload_n 0, 1) := by decide +kernel
theorem dX5_peakCurrent_21 : decode cX5_peakCurrent 21 = .ok (.getfield 63, 3) := by decide +kernel
theorem dX5_peakCurrent_24 : decode cX5_peakCurrent 24 = .ok (.iload_n 1, 1) := by decide +kernel
theorem dX5_peakCurrent_25 : decode cX5_peakCurrent 25 = .ok (.aaload, 1) := by decide +kernel
theorem dX5_peakCurrent_26 : decode cX5_peakCurrent 26 = .ok (.invokevirtual 139, 3) := by decide +kernel
theorem dX5_peakCurrent_29 : decode cX5_peakCurrent 29 = .ok (.istore_n 3, 1) := by decide +kernel
theorem dX5_peakCurrent_30 : decode cX5_peakCurrent 30 = .ok (.iconst 0, 1) := by decide +kernel
theorem dX5_peakCurrent_31 : decode cX5_peakCurrent 31 = .ok (.istore 4, 2) := by decide +kernel
theorem dX5_peakCurrent_33 : decode cX5_peakCurrent 33 = .ok (.iconst 1, 1) := by decide +kernel
theorem dX5_peakCurrent_34 : decode cX5_peakCurrent 34 = .ok (.istore 5, 2) := by decide +kernel
theorem dX5_peakCurrent_36 : decode cX5_peakCurrent 36 = .ok (.iload 5, 2) := by decide +kernel
theorem dX5_peakCurrent_38 : decode cX5_peakCurrent 38 = .ok (.iload_n 3, 1) := by decide +kernel
theorem dX5_peakCurrent_39 : decode cX5_peakCurrent 39 = .ok (.if_icmp .gt 36, 3) := by decide +kernel
theorem dX5_peakCurrent_42 : decode cX5_peakCurrent 42 = .ok (.aload_n 0, 1) := by decide +kernel
theorem dX5_peakCurrent_43 : decode cX5_peakCurrent 43 = .ok (.getfield 63, 3) := by decide +kernel
theorem dX5_peakCurrent_46 : decode cX5_peakCurrent 46 = .ok (.iload_n 1, 1) := by decide +kernel
theorem dX5_peakCurrent_47 : decode cX5_peakCurrent 47 = .ok (.aaload, 1) := by decide +kernel
theorem dX5_peakCurrent_48 : decode cX5_peakCurrent 48 = .ok (.iload 5, 2) := by decide +kernel
theorem dX5_peakCurrent_50 : decode cX5_peakCurrent 50 = .ok (.iload_n 3, 1) := by decide +kernel
theorem dX5_peakCurrent_51 : decode cX5_peakCurrent 51 = .ok (.invokevirtual 151, 3) := by decide +kernel
theorem dX5_peakCurrent_54 : decode cX5_peakCurrent 54 = .ok (.ifCond .eq 15, 3) := by decide +kernel
theorem dX5_peakCurrent_57 : decode cX5_peakCurrent 57 = .ok (.iload 4, 2) := by decide +kernel
theorem dX5_peakCurrent_59 : decode cX5_peakCurrent 59 = .ok (.iload_n 2, 1) := by decide +kernel
theorem dX5_peakCurrent_60 : decode cX5_peakCurrent 60 = .ok (.if_icmp .ne 6, 3) := by decide +kernel
theorem dX5_peakCurrent_63 : decode cX5_peakCurrent 63 = .ok (.iload 5, 2) := by decide +kernel
theorem dX5_peakCurrent_65 : decode cX5_peakCurrent 65 = .ok (.ireturn, 1) := by decide +kernel
theorem dX5_peakCurrent_66 : decode cX5_peakCurrent 66 = .ok (.iinc 4 1, 3) := by decide +kernel
theorem dX5_peakCurrent_69 : decode cX5_peakCurrent 69 = .ok (.iinc 5 1, 3) := by decide +kernel
theorem dX5_peakCurrent_72 : decode cX5_peakCurrent 72 = .ok (.goto (-36), 3) := by decide +kernel
theorem dX5_peakCurrent_75 : decode cX5_peakCurrent 75 = .ok (.sipush (-1005), 3) := by decide +kernel
theorem dX5_peakCurrent_78 : decode cX5_peakCurrent 78 = .ok (.ireturn, 1) := by decide +kernel
theorem dX5_bestCurrent_0 : decode cX5_bestCurrent 0 = .ok (.aload_n 0, 1) := by decide +kernel
theorem dX5_bestCurrent_1 : decode cX5_bestCurrent 1 = .ok (.iload_n 1, 1) := by decide +kernel
theorem dX5_bestCurrent_2 : decode cX5_bestCurrent 2 = .ok (.invokevirtual 70, 3) := by decide +kernel
theorem dX5_bestCurrent_5 : decode cX5_bestCurrent 5 = .ok (.ifCond .eq 15, 3) := by decide +kernel
theorem dX5_bestCurrent_8 : decode cX5_bestCurrent 8 = .ok (.aload_n 0, 1) := by decide +kernel
theorem dX5_bestCurrent_9 : decode cX5_bestCurrent 9 = .ok (.getfield 63, 3) := by decide +kernel
theorem dX5_bestCurrent_12 : decode cX5_bestCurrent 12 = .ok (.iload_n 1, 1) := by decide +kernel
theorem dX5_bestCurrent_13 : decode cX5_bestCurrent 13 = .ok (.aaload, 1) := by decide +kernel
theorem dX5_bestCurrent_14 : decode cX5_bestCurrent 14 = .ok (.invokevirtual 155, 3) := by decide +kernel
theorem dX5_bestCurrent_17 : decode cX5_bestCurrent 17 = .ok (.goto 6, 3) := by decide +kernel
theorem dX5_bestCurrent_20 : decode cX5_bestCurrent 20 = .ok (.sipush (-1001), 3) := by decide +kernel
theorem dX5_bestCurrent_23 : decode cX5_bestCurrent 23 = .ok (.ireturn, 1) := by decide +kernel
theorem dX5_bestPower_0 : decode cX5_bestPower 0 = .ok (.aload_n 0, 1) := by decide +kernel
theorem dX5_bestPower_1 : decode cX5_bestPower 1 = .ok (.iload_n 1, 1) := by decide +kernel
theorem dX5_bestPower_2 : decode cX5_bestPower 2 = .ok (.invokevirtual 70, 3) := by decide +kernel
theorem dX5_bestPower_5 : decode cX5_bestPower 5 = .ok (.ifCond .eq 15, 3) := by decide +kernel
theorem dX5_bestPower_8 : decode cX5_bestPower 8 = .ok (.aload_n 0, 1) := by decide +kernel
theorem dX5_bestPower_9 : decode cX5_bestPower 9 = .ok (.getfield 63, 3) := by decide +kernel
theorem dX5_bestPower_12 : decode cX5_bestPower 12 = .ok (.iload_n 1, 1) := by decide +kernel
theorem dX5_bestPower_13 : decode cX5_bestPower 13 = .ok (.aaload, 1) := by decide +kernel
theorem dX5_bestPower_14 : decode cX5_bestPower 14 = .ok (.invokevirtual 158, 3) := by decide +kernel
theorem dX5_bestPower_17 : decode cX5_bestPower 17 = .ok (.goto 6, 3) := by decide +kernel
theorem dX5_bestPower_20 : decode cX5_bestPower 20 = .ok (.ldc2_w 137, 3) := by decide +kernel
theorem dX5_bestPower_23 : decode cX5_bestPower 23 = .ok (.lreturn, 1) := by decide +kernel
theorem dX5_perturbAndObserve_0 : decode cX5_perturbAndObserve 0 = .ok (.aload_n 0, 1) := by decide +kernel
theorem dX5_perturbAndObserve_1 : decode cX5_perturbAndObserve 1 = .ok (.iload_n 1, 1) := by decide +kernel
theorem dX5_perturbAndObserve_2 : decode cX5_perturbAndObserve 2 = .ok (.invokevirtual 70, 3) := by decide +kernel
theorem dX5_perturbAndObserve_5 : decode cX5_perturbAndObserve 5 = .ok (.ifCond .ne 7, 3) := by decide +kernel
theorem dX5_perturbAndObserve_8 : decode cX5_perturbAndObserve 8 = .ok (.sipush (-1001), 3) := by decide +kernel
theorem dX5_perturbAndObserve_11 : decode cX5_perturbAndObserve 11 = .ok (.ireturn, 1) := by decide +kernel
theorem dX5_perturbAndObserve_12 : decode cX5_perturbAndObserve 12 = .ok (.aload_n 0, 1) := by decide +kernel
theorem dX5_perturbAndObserve_13 : decode cX5_perturbAndObserve 13 = .ok (.getfield 63, 3) := by decide +kernel
theorem dX5_perturbAndObserve_16 : decode cX5_perturbAndObserve 16 = .ok (.iload_n 1, 1) := by decide +kernel
theorem dX5_perturbAndObserve_17 : decode cX5_perturbAndObserve 17 = .ok (.aaload, 1) := by decide +kernel
theorem dX5_perturbAndObserve_18 : decode cX5_perturbAndObserve 18 = .ok (.astore 5, 2) := by decide +kernel
theorem dX5_perturbAndObserve_20 : decode cX5_perturbAndObserve 20 = .ok (.aload 5, 2) := by decide +kernel
theorem dX5_perturbAndObserve_22 : decode cX5_perturbAndObserve 22 = .ok (.invokevirtual 139, 3) := by decide +kernel
theorem dX5_perturbAndObserve_25 : decode cX5_perturbAndObserve 25 = .ok (.istore 6, 2) := by decide +kernel
theorem dX5_perturbAndObserve_27 : decode cX5_perturbAndObserve 27 = .ok (.iload_n 2, 1) := by decide +kernel
theorem dX5_perturbAndObserve_28 : decode cX5_perturbAndObserve 28 = .ok (.iconst 0, 1) := by decide +kernel
theorem dX5_perturbAndObserve_29 : decode cX5_perturbAndObserve 29 = .ok (.iload 6, 2) := by decide +kernel
theorem dX5_perturbAndObserve_31 : decode cX5_perturbAndObserve 31 = .ok (.invokestatic 74, 3) := by decide +kernel
theorem dX5_perturbAndObserve_34 : decode cX5_perturbAndObserve 34 = .ok (.ifCond .eq 25, 3) := by decide +kernel
theorem dX5_perturbAndObserve_37 : decode cX5_perturbAndObserve 37 = .ok (.iload_n 3, 1) := by decide +kernel
theorem dX5_perturbAndObserve_38 : decode cX5_perturbAndObserve 38 = .ok (.iconst 1, 1) := by decide +kernel
theorem dX5_perturbAndObserve_39 : decode cX5_perturbAndObserve 39 = .ok (.bipush 100, 2) := by decide +kernel
theorem dX5_perturbAndObserve_41 : decode cX5_perturbAndObserve 41 = .ok (.invokestatic 74, 3) := by decide +kernel
theorem dX5_perturbAndObserve_44 : decode cX5_perturbAndObserve 44 = .ok (.ifCond .eq 15, 3) := by decide +kernel
theorem dX5_perturbAndObserve_47 : decode cX5_perturbAndObserve 47 = .ok (.iload 4, 2) := by decide +kernel
theorem dX5_perturbAndObserve_49 : decode cX5_perturbAndObserve 49 = .ok (.iconst 0, 1) := by decide +kernel
theorem dX5_perturbAndObserve_50 : decode cX5_perturbAndObserve 50 = .ok (.sipush 200, 3) := by decide +kernel
theorem dX5_perturbAndObserve_53 : decode cX5_perturbAndObserve 53 = .ok (.invokestatic 74, 3) := by decide +kernel
theorem dX5_perturbAndObserve_56 : decode cX5_perturbAndObserve 56 = .ok (.ifCond .ne 7, 3) := by decide +kernel
theorem dX5_perturbAndObserve_59 : decode cX5_perturbAndObserve 59 = .ok (.sipush (-1003), 3) := by decide +kernel
theorem dX5_perturbAndObserve_62 : decode cX5_perturbAndObserve 62 = .ok (.ireturn, 1) := by decide +kernel
theorem dX5_perturbAndObserve_63 : decode cX5_perturbAndObserve 63 = .ok (.iload_n 2, 1) := by decide +kernel
theorem dX5_perturbAndObserve_64 : decode cX5_perturbAndObserve 64 = .ok (.istore 7, 2) := by decide +kernel
theorem dX5_perturbAndObserve_66 : decode cX5_perturbAndObserve 66 = .ok (.iconst 1, 1) := by decide +kernel
theorem dX5_perturbAndObserve_67 : decode cX5_perturbAndObserve 67 = .ok (.istore 8, 2) := by decide +kernel
theorem dX5_perturbAndObserve_69 : decode cX5_perturbAndObserve 69 = .ok (.iconst 0, 1) := by decide +kernel
theorem dX5_perturbAndObserve_70 : decode cX5_perturbAndObserve 70 = .ok (.istore 9, 2) := by decide +kernel
theorem dX5_perturbAndObserve_72 : decode cX5_perturbAndObserve 72 = .ok (.iload 9, 2) := by decide +kernel
theorem dX5_perturbAndObserve_74 : decode cX5_perturbAndObserve 74 = .ok (.iload 4, 2) := by decide +kernel
theorem dX5_perturbAndObserve_76 : decode cX5_perturbAndObserve 76 = .ok (.if_icmp .ge 73, 3) := by decide +kernel
theorem dX5_perturbAndObserve_79 : decode cX5_perturbAndObserve 79 = .ok (.iload 8, 2) := by decide +kernel
theorem dX5_perturbAndObserve_81 : decode cX5_perturbAndObserve 81 = .ok (.ifCond .eq 15, 3) := by decide +kernel
theorem dX5_perturbAndObserve_84 : decode cX5_perturbAndObserve 84 = .ok (.iload 7, 2) := by decide +kernel
theorem dX5_perturbAndObserve_86 : decode cX5_perturbAndObserve 86 = .ok (.iload_n 3, 1) := by decide +kernel
theorem dX5_perturbAndObserve_87 : decode cX5_perturbAndObserve 87 = .ok (.iadd, 1) := by decide +kernel
theorem dX5_perturbAndObserve_88 : decode cX5_perturbAndObserve 88 = .ok (.iload 6, 2) := by decide +kernel
theorem dX5_perturbAndObserve_90 : decode cX5_perturbAndObserve 90 = .ok (.invokestatic 159, 3) := by decide +kernel
theorem dX5_perturbAndObserve_93 : decode cX5_perturbAndObserve 93 = .ok (.goto 11, 3) := by decide +kernel
theorem dX5_perturbAndObserve_96 : decode cX5_perturbAndObserve 96 = .ok (.iload 7, 2) := by decide +kernel
theorem dX5_perturbAndObserve_98 : decode cX5_perturbAndObserve 98 = .ok (.iload_n 3, 1) := by decide +kernel
theorem dX5_perturbAndObserve_99 : decode cX5_perturbAndObserve 99 = .ok (.isub, 1) := by decide +kernel
theorem dX5_perturbAndObserve_100 : decode cX5_perturbAndObserve 100 = .ok (.iconst 0, 1) := by decide +kernel
theorem dX5_perturbAndObserve_101 : decode cX5_perturbAndObserve 101 = .ok (.invokestatic 164, 3) := by decide +kernel
theorem dX5_perturbAndObserve_104 : decode cX5_perturbAndObserve 104 = .ok (.istore 10, 2) := by decide +kernel
theorem dX5_perturbAndObserve_106 : decode cX5_perturbAndObserve 106 = .ok (.aload 5, 2) := by decide +kernel
theorem dX5_perturbAndObserve_108 : decode cX5_perturbAndObserve 108 = .ok (.iload 10, 2) := by decide +kernel
theorem dX5_perturbAndObserve_110 : decode cX5_perturbAndObserve 110 = .ok (.invokevirtual 144, 3) := by decide +kernel
theorem dX5_perturbAndObserve_113 : decode cX5_perturbAndObserve 113 = .ok (.aload 5, 2) := by decide +kernel
theorem dX5_perturbAndObserve_115 : decode cX5_perturbAndObserve 115 = .ok (.iload 7, 2) := by decide +kernel
theorem dX5_perturbAndObserve_117 : decode cX5_perturbAndObserve 117 = .ok (.invokevirtual 144, 3) := by decide +kernel
theorem dX5_perturbAndObserve_120 : decode cX5_perturbAndObserve 120 = .ok (.lcmp, 1) := by decide +kernel
theorem dX5_perturbAndObserve_121 : decode cX5_perturbAndObserve 121 = .ok (.ifCond .le 10, 3) := by decide +kernel
theorem dX5_perturbAndObserve_124 : decode cX5_perturbAndObserve 124 = .ok (.iload 10, 2) := by decide +kernel
theorem dX5_perturbAndObserve_126 : decode cX5_perturbAndObserve 126 = .ok (.istore 7, 2) := by decide +kernel
theorem dX5_perturbAndObserve_128 : decode cX5_perturbAndObserve 128 = .ok (.goto 15, 3) := by decide +kernel
theorem dX5_perturbAndObserve_131 : decode cX5_perturbAndObserve 131 = .ok (.iload 8, 2) := by decide +kernel
theorem dX5_perturbAndObserve_133 : decode cX5_perturbAndObserve 133 = .ok (.ifCond .ne 7, 3) := by decide +kernel
theorem dX5_perturbAndObserve_136 : decode cX5_perturbAndObserve 136 = .ok (.iconst 1, 1) := by decide +kernel
theorem dX5_perturbAndObserve_137 : decode cX5_perturbAndObserve 137 = .ok (.goto 4, 3) := by decide +kernel
theorem dX5_perturbAndObserve_140 : decode cX5_perturbAndObserve 140 = .ok (.iconst 0, 1) := by decide +kernel
theorem dX5_perturbAndObserve_141 : decode cX5_perturbAndObserve 141 = .ok (.istore 8, 2) := by decide +kernel
theorem dX5_perturbAndObserve_143 : decode cX5_perturbAndObserve 143 = .ok (.iinc 9 1, 3) := by decide +kernel
theorem dX5_perturbAndObserve_146 : decode cX5_perturbAndObserve 146 = .ok (.goto (-74), 3) := by decide +kernel
theorem dX5_perturbAndObserve_149 : decode cX5_perturbAndObserve 149 = .ok (.iload 7, 2) := by decide +kernel
theorem dX5_perturbAndObserve_151 : decode cX5_perturbAndObserve 151 = .ok (.ireturn, 1) := by decide +kernel
theorem dX5_scanAndClimb_0 : decode cX5_scanAndClimb 0 = .ok (.aload_n 0, 1) := by decide +kernel
theorem dX5_scanAndClimb_1 : decode cX5_scanAndClimb 1 = .ok (.iload_n 1, 1) := by decide +kernel
theorem dX5_scanAndClimb_2 : decode cX5_scanAndClimb 2 = .ok (.invokevirtual 70, 3) := by decide +kernel
theorem dX5_scanAndClimb_5 : decode cX5_scanAndClimb 5 = .ok (.ifCond .ne 7, 3) := by decide +kernel
theorem dX5_scanAndClimb_8 : decode cX5_scanAndClimb 8 = .ok (.sipush (-1001), 3) := by decide +kernel
theorem dX5_scanAndClimb_11 : decode cX5_scanAndClimb 11 = .ok (.ireturn, 1) := by decide +kernel
theorem dX5_scanAndClimb_12 : decode cX5_scanAndClimb 12 = .ok (.iload_n 2, 1) := by decide +kernel
theorem dX5_scanAndClimb_13 : decode cX5_scanAndClimb 13 = .ok (.iconst 1, 1) := by decide +kernel
theorem dX5_scanAndClimb_14 : decode cX5_scanAndClimb 14 = .ok (.sipush 500, 3) := by decide +kernel
theorem dX5_scanAndClimb_17 : decode cX5_scanAndClimb 17 = .ok (.invokestatic 74, 3) := by decide +kernel
theorem dX5_scanAndClimb_20 : decode cX5_scanAndClimb 20 = .ok (.ifCond .ne 7, 3) := by decide +kernel
theorem dX5_scanAndClimb_23 : decode cX5_scanAndClimb 23 = .ok (.sipush (-1003), 3) := by decide +kernel
theorem dX5_scanAndClimb_26 : decode cX5_scanAndClimb 26 = .ok (.ireturn, 1) := by decide +kernel
theorem dX5_scanAndClimb_27 : decode cX5_scanAndClimb 27 = .ok (.aload_n 0, 1) := by decide +kernel
theorem dX5_scanAndClimb_28 : decode cX5_scanAndClimb 28 = .ok (.getfield 63, 3) := by decide +kernel
theorem dX5_scanAndClimb_31 : decode cX5_scanAndClimb 31 = .ok (.iload_n 1, 1) := by decide +kernel
theorem dX5_scanAndClimb_32 : decode cX5_scanAndClimb 32 = .ok (.aaload, 1) := by decide +kernel
theorem dX5_scanAndClimb_33 : decode cX5_scanAndClimb 33 = .ok (.aload_n 0, 1) := by decide +kernel
theorem dX5_scanAndClimb_34 : decode cX5_scanAndClimb 34 = .ok (.getfield 63, 3) := by decide +kernel
theorem dX5_scanAndClimb_37 : decode cX5_scanAndClimb 37 = .ok (.iload_n 1, 1) := by decide +kernel
theorem dX5_scanAndClimb_38 : decode cX5_scanAndClimb 38 = .ok (.aaload, 1) := by decide +kernel
theorem dX5_scanAndClimb_39 : decode cX5_scanAndClimb 39 = .ok (.iload_n 2, 1) := by decide +kernel
theorem dX5_scanAndClimb_40 : decode cX5_scanAndClimb 40 = .ok (.invokevirtual 167, 3) := by decide +kernel
theorem dX5_scanAndClimb_43 : decode cX5_scanAndClimb 43 = .ok (.invokevirtual 170, 3) := by decide +kernel
theorem dX5_scanAndClimb_46 : decode cX5_scanAndClimb 46 = .ok (.ireturn, 1) := by decide +kernel
theorem dX5_arrayCurrent_0 : decode cX5_arrayCurrent 0 = .ok (.iload_n 1, 1) := by decide +kernel
theorem dX5_arrayCurrent_1 : decode cX5_arrayCurrent 1 = .ok (.iconst 0, 1) := by decide +kernel
theorem dX5_arrayCurrent_2 : decode cX5_arrayCurrent 2 = .ok (.sipush 7200, 3) := by decide +kernel
theorem dX5_arrayCurrent_5 : decode cX5_arrayCurrent 5 = .ok (.invokestatic 74, 3) := by decide +kernel
theorem dX5_arrayCurrent_8 : decode cX5_arrayCurrent 8 = .ok (.ifCond .eq 14, 3) := by decide +kernel
theorem dX5_arrayCurrent_11 : decode cX5_arrayCurrent 11 = .ok (.aload_n 0, 1) := by decide +kernel
theorem dX5_arrayCurrent_12 : decode cX5_arrayCurrent 12 = .ok (.getfield 51, 3) := by decide +kernel
theorem dX5_arrayCurrent_15 : decode cX5_arrayCurrent 15 = .ok (.iload_n 1, 1) := by decide +kernel
theorem dX5_arrayCurrent_16 : decode cX5_arrayCurrent 16 = .ok (.invokevirtual 173, 3) := by decide +kernel
theorem dX5_arrayCurrent_19 : decode cX5_arrayCurrent 19 = .ok (.goto 6, 3) := by decide +kernel
theorem dX5_arrayCurrent_22 : decode cX5_arrayCurrent 22 = .ok (.sipush (-1003), 3) := by decide +kernel
theorem dX5_arrayCurrent_25 : decode cX5_arrayCurrent 25 = .ok (.ireturn, 1) := by decide +kernel
theorem dX5_bestArrayVoltage_0 : decode cX5_bestArrayVoltage 0 = .ok (.aload_n 0, 1) := by decide +kernel
theorem dX5_bestArrayVoltage_1 : decode cX5_bestArrayVoltage 1 = .ok (.getfield 51, 3) := by decide +kernel
theorem dX5_bestArrayVoltage_4 : decode cX5_bestArrayVoltage 4 = .ok (.invokevirtual 174, 3) := by decide +kernel
theorem dX5_bestArrayVoltage_7 : decode cX5_bestArrayVoltage 7 = .ok (.ireturn, 1) := by decide +kernel
theorem dX5_totalBestPower_0 : decode cX5_totalBestPower 0 = .ok (.lconst 0, 1) := by decide +kernel
theorem dX5_totalBestPower_1 : decode cX5_totalBestPower 1 = .ok (.lstore_n 1, 1) := by decide +kernel
theorem dX5_totalBestPower_2 : decode cX5_totalBestPower 2 = .ok (.iconst 0, 1) := by decide +kernel
theorem dX5_totalBestPower_3 : decode cX5_totalBestPower 3 = .ok (.istore_n 3, 1) := by decide +kernel
theorem dX5_totalBestPower_4 : decode cX5_totalBestPower 4 = .ok (.iload_n 3, 1) := by decide +kernel
theorem dX5_totalBestPower_5 : decode cX5_totalBestPower 5 = .ok (.aload_n 0, 1) := by decide +kernel
theorem dX5_totalBestPower_6 : decode cX5_totalBestPower 6 = .ok (.getfield 51, 3) := by decide +kernel
theorem dX5_totalBestPower_9 : decode cX5_totalBestPower 9 = .ok (.getfield 67, 3) := by decide +kernel
theorem dX5_totalBestPower_12 : decode cX5_totalBestPower 12 = .ok (.if_icmp .ge 21, 3) := by decide +kernel
theorem dX5_totalBestPower_15 : decode cX5_totalBestPower 15 = .ok (.lload_n 1, 1) := by decide +kernel
theorem dX5_totalBestPower_16 : decode cX5_totalBestPower 16 = .ok (.aload_n 0, 1) := by decide +kernel
theorem dX5_totalBestPower_17 : decode cX5_totalBestPower 17 = .ok (.getfield 63, 3) := by decide +kernel
theorem dX5_totalBestPower_20 : decode cX5_totalBestPower 20 = .ok (.iload_n 3, 1) := by decide +kernel
theorem dX5_totalBestPower_21 : decode cX5_totalBestPower 21 = .ok (.aaload, 1) := by decide +kernel
theorem dX5_totalBestPower_22 : decode cX5_totalBestPower 22 = .ok (.invokevirtual 158, 3) := by decide +kernel
theorem dX5_totalBestPower_25 : decode cX5_totalBestPower 25 = .ok (.ladd, 1) := by decide +kernel
theorem dX5_totalBestPower_26 : decode cX5_totalBestPower 26 = .ok (.lstore_n 1, 1) := by decide +kernel
theorem dX5_totalBestPower_27 : decode cX5_totalBestPower 27 = .ok (.iinc 3 1, 3) := by decide +kernel
theorem dX5_totalBestPower_30 : decode cX5_totalBestPower 30 = .ok (.goto (-26), 3) := by decide +kernel
theorem dX5_totalBestPower_33 : decode cX5_totalBestPower 33 = .ok (.lload_n 1, 1) := by decide +kernel
theorem dX5_totalBestPower_34 : decode cX5_totalBestPower 34 = .ok (.lreturn, 1) := by decide +kernel
theorem dX5_mismatchLoss_0 : decode cX5_mismatchLoss 0 = .ok (.lconst 0, 1) := by decide +kernel
theorem dX5_mismatchLoss_1 : decode cX5_mismatchLoss 1 = .ok (.lstore_n 1, 1) := by decide +kernel
theorem dX5_mismatchLoss_2 : decode cX5_mismatchLoss 2 = .ok (.iconst 0, 1) := by decide +kernel
theorem dX5_mismatchLoss_3 : decode cX5_mismatchLoss 3 = .ok (.istore_n 3, 1) := by decide +kernel
theorem dX5_mismatchLoss_4 : decode cX5_mismatchLoss 4 = .ok (.iload_n 3, 1) := by decide +kernel
theorem dX5_mismatchLoss_5 : decode cX5_mismatchLoss 5 = .ok (.aload_n 0, 1) := by decide +kernel
theorem dX5_mismatchLoss_6 : decode cX5_mismatchLoss 6 = .ok (.getfield 9, 3) := by decide +kernel
theorem dX5_mismatchLoss_9 : decode cX5_mismatchLoss 9 = .ok (.if_icmp .ge 21, 3) := by decide +kernel
theorem dX5_mismatchLoss_12 : decode cX5_mismatchLoss 12 = .ok (.lload_n 1, 1) := by decide +kernel
theorem dX5_mismatchLoss_13 : decode cX5_mismatchLoss 13 = .ok (.aload_n 0, 1) := by decide +kernel
theorem dX5_mismatchLoss_14 : decode cX5_mismatchLoss 14 = .ok (.getfield 59, 3) := by decide +kernel
theorem dX5_mismatchLoss_17 : decode cX5_mismatchLoss 17 = .ok (.iload_n 3, 1) := by decide +kernel
theorem dX5_mismatchLoss_18 : decode cX5_mismatchLoss 18 = .ok (.aaload, 1) := by decide +kernel
theorem dX5_mismatchLoss_19 : decode cX5_mismatchLoss 19 = .ok (.invokevirtual 133, 3) := by decide +kernel
theorem dX5_mismatchLoss_22 : decode cX5_mismatchLoss 22 = .ok (.ladd, 1) := by decide +kernel
theorem dX5_mismatchLoss_23 : decode cX5_mismatchLoss 23 = .ok (.lstore_n 1, 1) := by decide +kernel
theorem dX5_mismatchLoss_24 : decode cX5_mismatchLoss 24 = .ok (.iinc 3 1, 3) := by decide +kernel
theorem dX5_mismatchLoss_27 : decode cX5_mismatchLoss 27 = .ok (.goto (-23), 3) := by decide +kernel
theorem dX5_mismatchLoss_30 : decode cX5_mismatchLoss 30 = .ok (.iconst 0, 1) := by decide +kernel
theorem dX5_mismatchLoss_31 : decode cX5_mismatchLoss 31 = .ok (.istore_n 3, 1) := by decide +kernel
theorem dX5_mismatchLoss_32 : decode cX5_mismatchLoss 32 = .ok (.iload_n 3, 1) := by decide +kernel
theorem dX5_mismatchLoss_33 : decode cX5_mismatchLoss 33 = .ok (.aload_n 0, 1) := by decide +kernel
theorem dX5_mismatchLoss_34 : decode cX5_mismatchLoss 34 = .ok (.getfield 51, 3) := by decide +kernel
theorem dX5_mismatchLoss_37 : decode cX5_mismatchLoss 37 = .ok (.getfield 67, 3) := by decide +kernel
theorem dX5_mismatchLoss_40 : decode cX5_mismatchLoss 40 = .ok (.if_icmp .ge 21, 3) := by decide +kernel
theorem dX5_mismatchLoss_43 : decode cX5_mismatchLoss 43 = .ok (.lload_n 1, 1) := by decide +kernel
theorem dX5_mismatchLoss_44 : decode cX5_mismatchLoss 44 = .ok (.aload_n 0, 1) := by decide +kernel
theorem dX5_mismatchLoss_45 : decode cX5_mismatchLoss 45 = .ok (.getfield 63, 3) := by decide +kernel
theorem dX5_mismatchLoss_48 : decode cX5_mismatchLoss 48 = .ok (.iload_n 3, 1) := by decide +kernel
theorem dX5_mismatchLoss_49 : decode cX5_mismatchLoss 49 = .ok (.aaload, 1) := by decide +kernel
theorem dX5_mismatchLoss_50 : decode cX5_mismatchLoss 50 = .ok (.invokevirtual 158, 3) := by decide +kernel
theorem dX5_mismatchLoss_53 : decode cX5_mismatchLoss 53 = .ok (.lsub, 1) := by decide +kernel
theorem dX5_mismatchLoss_54 : decode cX5_mismatchLoss 54 = .ok (.lstore_n 1, 1) := by decide +kernel
theorem dX5_mismatchLoss_55 : decode cX5_mismatchLoss 55 = .ok (.iinc 3 1, 3) := by decide +kernel
theorem dX5_mismatchLoss_58 : decode cX5_mismatchLoss 58 = .ok (.goto (-26), 3) := by decide +kernel
theorem dX5_mismatchLoss_61 : decode cX5_mismatchLoss 61 = .ok (.lload_n 1, 1) := by decide +kernel
theorem dX5_mismatchLoss_62 : decode cX5_mismatchLoss 62 = .ok (.lreturn, 1) := by decide +kernel
theorem dX5_bestSwapGain_0 : decode cX5_bestSwapGain 0 = .ok (.aload_n 0, 1) := by decide +kernel
theorem dX5_bestSwapGain_1 : decode cX5_bestSwapGain 1 = .ok (.invokevirtual 175, 3) := by decide +kernel
theorem dX5_bestSwapGain_4 : decode cX5_bestSwapGain 4 = .ok (.aload_n 0, 1) := by decide +kernel
theorem dX5_bestSwapGain_5 : decode cX5_bestSwapGain 5 = .ok (.getfield 19, 3) := by decide +kernel
theorem dX5_bestSwapGain_8 : decode cX5_bestSwapGain 8 = .ok (.lreturn, 1) := by decide +kernel
theorem dX5_bestSwapLower_0 : decode cX5_bestSwapLower 0 = .ok (.aload_n 0, 1) := by decide +kernel
theorem dX5_bestSwapLower_1 : decode cX5_bestSwapLower 1 = .ok (.invokevirtual 175, 3) := by decide +kernel
theorem dX5_bestSwapLower_4 : decode cX5_bestSwapLower 4 = .ok (.aload_n 0, 1) := by decide +kernel
theorem dX5_bestSwapLower_5 : decode cX5_bestSwapLower 5 = .ok (.getfield 23, 3) := by decide +kernel
theorem dX5_bestSwapLower_8 : decode cX5_bestSwapLower 8 = .ok (.ireturn, 1) := by decide +kernel
theorem dX5_bestSwapHigher_0 : decode cX5_bestSwapHigher 0 = .ok (.aload_n 0, 1) := by decide +kernel
theorem dX5_bestSwapHigher_1 : decode cX5_bestSwapHigher 1 = .ok (.invokevirtual 175, 3) := by decide +kernel
theorem dX5_bestSwapHigher_4 : decode cX5_bestSwapHigher 4 = .ok (.aload_n 0, 1) := by decide +kernel
theorem dX5_bestSwapHigher_5 : decode cX5_bestSwapHigher 5 = .ok (.getfield 26, 3) := by decide +kernel
theorem dX5_bestSwapHigher_8 : decode cX5_bestSwapHigher 8 = .ok (.ireturn, 1) := by decide +kernel
theorem dX5_regroup_0 : decode cX5_regroup 0 = .ok (.aload_n 0, 1) := by decide +kernel
theorem dX5_regroup_1 : decode cX5_regroup 1 = .ok (.invokevirtual 178, 3) := by decide +kernel
theorem dX5_regroup_4 : decode cX5_regroup 4 = .ok (.iconst 0, 1) := by decide +kernel
theorem dX5_regroup_5 : decode cX5_regroup 5 = .ok (.istore_n 1, 1) := by decide +kernel
theorem dX5_regroup_6 : decode cX5_regroup 6 = .ok (.iconst 0, 1) := by decide +kernel
theorem dX5_regroup_7 : decode cX5_regroup 7 = .ok (.istore_n 2, 1) := by decide +kernel
theorem dX5_regroup_8 : decode cX5_regroup 8 = .ok (.iconst 0, 1) := by decide +kernel
theorem dX5_regroup_9 : decode cX5_regroup 9 = .ok (.istore_n 3, 1) := by decide +kernel
theorem dX5_regroup_10 : decode cX5_regroup 10 = .ok (.iload_n 3, 1) := by decide +kernel
theorem dX5_regroup_11 : decode cX5_regroup 11 = .ok (.aload_n 0, 1) := by decide +kernel
theorem dX5_regroup_12 : decode cX5_regroup 12 = .ok (.getfield 51, 3) := by decide +kernel
theorem dX5_regroup_15 : decode cX5_regroup 15 = .ok (.getfield 67, 3) := by decide +kernel
theorem dX5_regroup_18 : decode cX5_regroup 18 = .ok (.if_icmp .ge 77, 3) := by decide +kernel
theorem dX5_regroup_21 : decode cX5_regroup 21 = .ok (.iconst 0, 1) := by decide +kernel
theorem dX5_regroup_22 : decode cX5_regroup 22 = .ok (.istore 4, 2) := by decide +kernel
theorem dX5_regroup_24 : decode cX5_regroup 24 = .ok (.iload 4, 2) := by decide +kernel
theorem dX5_regroup_26 : decode cX5_regroup 26 = .ok (.aload_n 0, 1) := by decide +kernel
theorem dX5_regroup_27 : decode cX5_regroup 27 = .ok (.getfield 63, 3) := by decide +kernel
theorem dX5_regroup_30 : decode cX5_regroup 30 = .ok (.iload_n 3, 1) := by decide +kernel
theorem dX5_regroup_31 : decode cX5_regroup 31 = .ok (.aaload, 1) := by decide +kernel
theorem dX5_regroup_32 : decode cX5_regroup 32 = .ok (.getfield 122, 3) := by decide +kernel
theorem dX5_regroup_35 : decode cX5_regroup 35 = .ok (.if_icmp .ge 54, 3) := by decide +kernel
theorem dX5_regroup_38 : decode cX5_regroup 38 = .ok (.iload_n 2, 1) := by decide +kernel
theorem dX5_regroup_39 : decode cX5_regroup 39 = .ok (.aload_n 0, 1) := by decide +kernel
theorem dX5_regroup_40 : decode cX5_regroup 40 = .ok (.getfield 9, 3) := by decide +kernel
theorem dX5_regroup_43 : decode cX5_regroup 43 = .ok (.if_icmp .ge 46, 3) := by decide +kernel
theorem dX5_regroup_46 : decode cX5_regroup 46 = .ok (.aload_n 0, 1) := by decide +kernel
theorem dX5_regroup_47 : decode cX5_regroup 47 = .ok (.getfield 29, 3) := by decide +kernel
theorem dX5_regroup_50 : decode cX5_regroup 50 = .ok (.iload_n 2, 1) := by decide +kernel
theorem dX5_regroup_51 : decode cX5_regroup 51 = .ok (.iaload, 1) := by decide +kernel
theorem dX5_regroup_52 : decode cX5_regroup 52 = .ok (.istore 5, 2) := by decide +kernel
theorem dX5_regroup_54 : decode cX5_regroup 54 = .ok (.iinc 2 1, 3) := by decide +kernel
theorem dX5_regroup_57 : decode cX5_regroup 57 = .ok (.aload_n 0, 1) := by decide +kernel
theorem dX5_regroup_58 : decode cX5_regroup 58 = .ok (.getfield 59, 3) := by decide +kernel
theorem dX5_regroup_61 : decode cX5_regroup 61 = .ok (.iload 5, 2) := by decide +kernel
theorem dX5_regroup_63 : decode cX5_regroup 63 = .ok (.aaload, 1) := by decide +kernel
theorem dX5_regroup_64 : decode cX5_regroup 64 = .ok (.getfield 112, 3) := by decide +kernel
theorem dX5_regroup_67 : decode cX5_regroup 67 = .ok (.iload_n 3, 1) := by decide +kernel
theorem dX5_regroup_68 : decode cX5_regroup 68 = .ok (.if_icmp .eq 6, 3) := by decide +kernel
theorem dX5_regroup_71 : decode cX5_regroup 71 = .ok (.iinc 1 1, 3) := by decide +kernel
theorem dX5_regroup_74 : decode cX5_regroup 74 = .ok (.aload_n 0, 1) := by decide +kernel
theorem dX5_regroup_75 : decode cX5_regroup 75 = .ok (.iload 5, 2) := by decide +kernel
theorem dX5_regroup_77 : decode cX5_regroup 77 = .ok (.iload_n 3, 1) := by decide +kernel
theorem dX5_regroup_78 : decode cX5_regroup 78 = .ok (.iload 4, 2) := by decide +kernel
theorem dX5_regroup_80 : decode cX5_regroup 80 = .ok (.invokevirtual 181, 3) := by decide +kernel
theorem dX5_regroup_83 : decode cX5_regroup 83 = .ok (.iinc 4 1, 3) := by decide +kernel
theorem dX5_regroup_86 : decode cX5_regroup 86 = .ok (.goto (-62), 3) := by decide +kernel
theorem dX5_regroup_89 : decode cX5_regroup 89 = .ok (.iinc 3 1, 3) := by decide +kernel
theorem dX5_regroup_92 : decode cX5_regroup 92 = .ok (.goto (-82), 3) := by decide +kernel
theorem dX5_regroup_95 : decode cX5_regroup 95 = .ok (.iload_n 1, 1) := by decide +kernel
theorem dX5_regroup_96 : decode cX5_regroup 96 = .ok (.ireturn, 1) := by decide +kernel
theorem dX5_isString_0 : decode cX5_isString 0 = .ok (.iload_n 1, 1) := by decide +kernel
theorem dX5_isString_1 : decode cX5_isString 1 = .ok (.ifCond .lt 18, 3) := by decide +kernel
theorem dX5_isString_4 : decode cX5_isString 4 = .ok (.iload_n 1, 1) := by decide +kernel
theorem dX5_isString_5 : decode cX5_isString 5 = .ok (.aload_n 0, 1) := by decide +kernel
theorem dX5_isString_6 : decode cX5_isString 6 = .ok (.getfield 51, 3) := by decide +kernel
theorem dX5_isString_9 : decode cX5_isString 9 = .ok (.getfield 67, 3) := by decide +kernel
theorem dX5_isString_12 : decode cX5_isString 12 = .ok (.if_icmp .ge 7, 3) := by decide +kernel
theorem dX5_isString_15 : decode cX5_isString 15 = .ok (.iconst 1, 1) := by decide +kernel
theorem dX5_isString_16 : decode cX5_isString 16 = .ok (.goto 4, 3) := by decide +kernel
theorem dX5_isString_19 : decode cX5_isString 19 = .ok (.iconst 0, 1) := by decide +kernel
theorem dX5_isString_20 : decode cX5_isString 20 = .ok (.ireturn, 1) := by decide +kernel
theorem dX5_isModule_0 : decode cX5_isModule 0 = .ok (.iload_n 1, 1) := by decide +kernel
theorem dX5_isModule_1 : decode cX5_isModule 1 = .ok (.ifCond .lt 15, 3) := by decide +kernel
theorem dX5_isModule_4 : decode cX5_isModule 4 = .ok (.iload_n 1, 1) := by decide +kernel
theorem dX5_isModule_5 : decode cX5_isModule 5 = .ok (.aload_n 0, 1) := by decide +kernel
theorem dX5_isModule_6 : decode cX5_isModule 6 = .ok (.getfield 9, 3) := by decide +kernel
theorem dX5_isModule_9 : decode cX5_isModule 9 = .ok (.if_icmp .ge 7, 3) := by decide +kernel
theorem dX5_isModule_12 : decode cX5_isModule 12 = .ok (.iconst 1, 1) := by decide +kernel
theorem dX5_isModule_13 : decode cX5_isModule 13 = .ok (.goto 4, 3) := by decide +kernel
theorem dX5_isModule_16 : decode cX5_isModule 16 = .ok (.iconst 0, 1) := by decide +kernel
theorem dX5_isModule_17 : decode cX5_isModule 17 = .ok (.ireturn, 1) := by decide +kernel
theorem dX5_isWithin_0 : decode cX5_isWithin 0 = .ok (.iload_n 0, 1) := by decide +kernel
theorem dX5_isWithin_1 : decode cX5_isWithin 1 = .ok (.iload_n 1, 1) := by decide +kernel
theorem dX5_isWithin_2 : decode cX5_isWithin 2 = .ok (.if_icmp .lt 12, 3) := by decide +kernel
theorem dX5_isWithin_5 : decode cX5_isWithin 5 = .ok (.iload_n 0, 1) := by decide +kernel
theorem dX5_isWithin_6 : decode cX5_isWithin 6 = .ok (.iload_n 2, 1) := by decide +kernel
theorem dX5_isWithin_7 : decode cX5_isWithin 7 = .ok (.if_icmp .gt 7, 3) := by decide +kernel
theorem dX5_isWithin_10 : decode cX5_isWithin 10 = .ok (.iconst 1, 1) := by decide +kernel
theorem dX5_isWithin_11 : decode cX5_isWithin 11 = .ok (.goto 4, 3) := by decide +kernel
theorem dX5_isWithin_14 : decode cX5_isWithin 14 = .ok (.iconst 0, 1) := by decide +kernel
theorem dX5_isWithin_15 : decode cX5_isWithin 15 = .ok (.ireturn, 1) := by decide +kernel
theorem dX5_place_0 : decode cX5_place 0 = .ok (.aload_n 0, 1) := by decide +kernel
theorem dX5_place_1 : decode cX5_place 1 = .ok (.getfield 63, 3) := by decide +kernel
theorem dX5_place_4 : decode cX5_place 4 = .ok (.iload_n 2, 1) := by decide +kernel
theorem dX5_place_5 : decode cX5_place 5 = .ok (.aaload, 1) := by decide +kernel
theorem dX5_place_6 : decode cX5_place 6 = .ok (.getfield 123, 3) := by decide +kernel
theorem dX5_place_9 : decode cX5_place 9 = .ok (.iload_n 3, 1) := by decide +kernel
theorem dX5_place_10 : decode cX5_place 10 = .ok (.iload_n 1, 1) := by decide +kernel
theorem dX5_place_11 : decode cX5_place 11 = .ok (.iastore, 1) := by decide +kernel
theorem dX5_place_12 : decode cX5_place 12 = .ok (.aload_n 0, 1) := by decide +kernel
theorem dX5_place_13 : decode cX5_place 13 = .ok (.getfield 59, 3) := by decide +kernel
theorem dX5_place_16 : decode cX5_place 16 = .ok (.iload_n 1, 1) := by decide +kernel
theorem dX5_place_17 : decode cX5_place 17 = .ok (.aaload, 1) := by decide +kernel
theorem dX5_place_18 : decode cX5_place 18 = .ok (.iload_n 2, 1) := by decide +kernel
theorem dX5_place_19 : decode cX5_place 19 = .ok (.putfield 112, 3) := by decide +kernel
theorem dX5_place_22 : decode cX5_place 22 = .ok (.aload_n 0, 1) := by decide +kernel
theorem dX5_place_23 : decode cX5_place 23 = .ok (.getfield 59, 3) := by decide +kernel
theorem dX5_place_26 : decode cX5_place 26 = .ok (.iload_n 1, 1) := by decide +kernel
theorem dX5_place_27 : decode cX5_place 27 = .ok (.aaload, 1) := by decide +kernel
theorem dX5_place_28 : decode cX5_place 28 = .ok (.iload_n 3, 1) := by decide +kernel
theorem dX5_place_29 : decode cX5_place 29 = .ok (.putfield 185, 3) := by decide +kernel
theorem dX5_place_32 : decode cX5_place 32 = .ok (.return_, 1) := by decide +kernel
theorem dX5_putLast_0 : decode cX5_putLast 0 = .ok (.aload_n 0, 1) := by decide +kernel
theorem dX5_putLast_1 : decode cX5_putLast 1 = .ok (.getfield 63, 3) := by decide +kernel
theorem dX5_putLast_4 : decode cX5_putLast 4 = .ok (.iload_n 2, 1) := by decide +kernel
theorem dX5_putLast_5 : decode cX5_putLast 5 = .ok (.aaload, 1) := by decide +kernel
theorem dX5_putLast_6 : decode cX5_putLast 6 = .ok (.getfield 122, 3) := by decide +kernel
theorem dX5_putLast_9 : decode cX5_putLast 9 = .ok (.istore_n 3, 1) := by decide +kernel
theorem dX5_putLast_10 : decode cX5_putLast 10 = .ok (.aload_n 0, 1) := by decide +kernel
theorem dX5_putLast_11 : decode cX5_putLast 11 = .ok (.iload_n 1, 1) := by decide +kernel
theorem dX5_putLast_12 : decode cX5_putLast 12 = .ok (.iload_n 2, 1) := by decide +kernel
theorem dX5_putLast_13 : decode cX5_putLast 13 = .ok (.iload_n 3, 1) := by decide +kernel
theorem dX5_putLast_14 : decode cX5_putLast 14 = .ok (.invokevirtual 181, 3) := by decide +kernel
theorem dX5_putLast_17 : decode cX5_putLast 17 = .ok (.aload_n 0, 1) := by decide +kernel
theorem dX5_putLast_18 : decode cX5_putLast 18 = .ok (.getfield 63, 3) := by decide +kernel
theorem dX5_putLast_21 : decode cX5_putLast 21 = .ok (.iload_n 2, 1) := by decide +kernel
theorem dX5_putLast_22 : decode cX5_putLast 22 = .ok (.aaload, 1) := by decide +kernel
theorem dX5_putLast_23 : decode cX5_putLast 23 = .ok (.dup, 1) := by decide +kernel
theorem dX5_putLast_24 : decode cX5_putLast 24 = .ok (.getfield 122, 3) := by decide +kernel
theorem dX5_putLast_27 : decode cX5_putLast 27 = .ok (.iconst 1, 1) := by decide +kernel
theorem dX5_putLast_28 : decode cX5_putLast 28 = .ok (.iadd, 1) := by decide +kernel
theorem dX5_putLast_29 : decode cX5_putLast 29 = .ok (.putfield 122, 3) := by decide +kernel
theorem dX5_putLast_32 : decode cX5_putLast 32 = .ok (.iload_n 3, 1) := by decide +kernel
theorem dX5_putLast_33 : decode cX5_putLast 33 = .ok (.ireturn, 1) := by decide +kernel
theorem dX5_takeOut_0 : decode cX5_takeOut 0 = .ok (.aload_n 0, 1) := by decide +kernel
theorem dX5_takeOut_1 : decode cX5_takeOut 1 = .ok (.getfield 59, 3) := by decide +kernel
theorem dX5_takeOut_4 : decode cX5_takeOut 4 = .ok (.iload_n 1, 1) := by decide +kernel
theorem dX5_takeOut_5 : decode cX5_takeOut 5 = .ok (.aaload, 1) := by decide +kernel
theorem dX5_takeOut_6 : decode cX5_takeOut 6 = .ok (.getfield 112, 3) := by decide +kernel
theorem dX5_takeOut_9 : decode cX5_takeOut 9 = .ok (.istore_n 2, 1) := by decide +kernel
theorem dX5_takeOut_10 : decode cX5_takeOut 10 = .ok (.aload_n 0, 1) := by decide +kernel
theorem dX5_takeOut_11 : decode cX5_takeOut 11 = .ok (.getfield 63, 3) := by decide +kernel
theorem dX5_takeOut_14 : decode cX5_takeOut 14 = .ok (.iload_n 2, 1) := by decide +kernel
theorem dX5_takeOut_15 : decode cX5_takeOut 15 = .ok (.aaload, 1) := by decide +kernel
theorem dX5_takeOut_16 : decode cX5_takeOut 16 = .ok (.astore_n 3, 1) := by decide +kernel
theorem dX5_takeOut_17 : decode cX5_takeOut 17 = .ok (.aload_n 3, 1) := by decide +kernel
theorem dX5_takeOut_18 : decode cX5_takeOut 18 = .ok (.dup, 1) := by decide +kernel
theorem dX5_takeOut_19 : decode cX5_takeOut 19 = .ok (.getfield 122, 3) := by decide +kernel
theorem dX5_takeOut_22 : decode cX5_takeOut 22 = .ok (.iconst 1, 1) := by decide +kernel
theorem dX5_takeOut_23 : decode cX5_takeOut 23 = .ok (.isub, 1) := by decide +kernel
theorem dX5_takeOut_24 : decode cX5_takeOut 24 = .ok (.putfield 122, 3) := by decide +kernel
theorem dX5_takeOut_27 : decode cX5_takeOut 27 = .ok (.aload_n 0, 1) := by decide +kernel
theorem dX5_takeOut_28 : decode cX5_takeOut 28 = .ok (.getfield 59, 3) := by decide +kernel
theorem dX5_takeOut_31 : decode cX5_takeOut 31 = .ok (.iload_n 1, 1) := by decide +kernel
theorem dX5_takeOut_32 : decode cX5_takeOut 32 = .ok (.aaload, 1) := by decide +kernel
theorem dX5_takeOut_33 : decode cX5_takeOut 33 = .ok (.getfield 185, 3) := by decide +kernel
theorem dX5_takeOut_36 : decode cX5_takeOut 36 = .ok (.istore 4, 2) := by decide +kernel
theorem dX5_takeOut_38 : decode cX5_takeOut 38 = .ok (.iload 4, 2) := by decide +kernel
theorem dX5_takeOut_40 : decode cX5_takeOut 40 = .ok (.aload_n 3, 1) := by decide +kernel
theorem dX5_takeOut_41 : decode cX5_takeOut 41 = .ok (.getfield 122, 3) := by decide +kernel
theorem dX5_takeOut_44 : decode cX5_takeOut 44 = .ok (.if_icmp .ge 25, 3) := by decide +kernel
theorem dX5_takeOut_47 : decode cX5_takeOut 47 = .ok (.aload_n 0, 1) := by decide +kernel
theorem dX5_takeOut_48 : decode cX5_takeOut 48 = .ok (.aload_n 3, 1) := by decide +kernel
theorem dX5_takeOut_49 : decode cX5_takeOut 49 = .ok (.getfield 123, 3) := by decide +kernel
theorem dX5_takeOut_52 : decode cX5_takeOut 52 = .ok (.iload 4, 2) := by decide +kernel
theorem dX5_takeOut_54 : decode cX5_takeOut 54 = .ok (.iconst 1, 1) := by decide +kernel
theorem dX5_takeOut_55 : decode cX5_takeOut 55 = .ok (.iadd, 1) := by decide +kernel
theorem dX5_takeOut_56 : decode cX5_takeOut 56 = .ok (.iaload, 1) := by decide +kernel
theorem dX5_takeOut_57 : decode cX5_takeOut 57 = .ok (.iload_n 2, 1) := by decide +kernel
theorem dX5_takeOut_58 : decode cX5_takeOut 58 = .ok (.iload 4, 2) := by decide +kernel
theorem dX5_takeOut_60 : decode cX5_takeOut 60 = .ok (.invokevirtual 181, 3) := by decide +kernel
theorem dX5_takeOut_63 : decode cX5_takeOut 63 = .ok (.iinc 4 1, 3) := by decide +kernel
theorem dX5_takeOut_66 : decode cX5_takeOut 66 = .ok (.goto (-28), 3) := by decide +kernel
theorem dX5_takeOut_69 : decode cX5_takeOut 69 = .ok (.return_, 1) := by decide +kernel
theorem dX5_exchange_0 : decode cX5_exchange 0 = .ok (.aload_n 0, 1) := by decide +kernel
theorem dX5_exchange_1 : decode cX5_exchange 1 = .ok (.getfield 59, 3) := by decide +kernel
theorem dX5_exchange_4 : decode cX5_exchange 4 = .ok (.iload_n 1, 1) := by decide +kernel
theorem dX5_exchange_5 : decode cX5_exchange 5 = .ok (.aaload, 1) := by decide +kernel
theorem dX5_exchange_6 : decode cX5_exchange 6 = .ok (.getfield 112, 3) := by decide +kernel
theorem dX5_exchange_9 : decode cX5_exchange 9 = .ok (.istore_n 3, 1) := by decide +kernel
theorem dX5_exchange_10 : decode cX5_exchange 10 = .ok (.aload_n 0, 1) := by decide +kernel
theorem dX5_exchange_11 : decode cX5_exchange 11 = .ok (.getfield 59, 3) := by decide +kernel
theorem dX5_exchange_14 : decode cX5_exchange 14 = .ok (.iload_n 1, 1) := by decide +kernel
theorem dX5_exchange_15 : decode cX5_exchange 15 = .ok (.aaload, 1) := by decide +kernel
theorem dX5_exchange_16 : decode cX5_exchange 16 = .ok (.getfield 185, 3) := by decide +kernel
theorem dX5_exchange_19 : decode cX5_exchange 19 = .ok (.istore 4, 2) := by decide +kernel
theorem dX5_exchange_21 : decode cX5_exchange 21 = .ok (.aload_n 0, 1) := by decide +kernel
theorem dX5_exchange_22 : decode cX5_exchange 22 = .ok (.iload_n 1, 1) := by decide +kernel
theorem dX5_exchange_23 : decode cX5_exchange 23 = .ok (.aload_n 0, 1) := by decide +kernel
theorem dX5_exchange_24 : decode cX5_exchange 24 = .ok (.getfield 59, 3) := by decide +kernel
theorem dX5_exchange_27 : decode cX5_exchange 27 = .ok (.iload_n 2, 1) := by decide +kernel
theorem dX5_exchange_28 : decode cX5_exchange 28 = .ok (.aaload, 1) := by decide +kernel
theorem dX5_exchange_29 : decode cX5_exchange 29 = .ok (.getfield 112, 3) := by decide +kernel
theorem dX5_exchange_32 : decode cX5_exchange 32 = .ok (.aload_n 0, 1) := by decide +kernel
theorem dX5_exchange_33 : decode cX5_exchange 33 = .ok (.getfield 59, 3) := by decide +kernel
theorem dX5_exchange_36 : decode cX5_exchange 36 = .ok (.iload_n 2, 1) := by decide +kernel
theorem dX5_exchange_37 : decode cX5_exchange 37 = .ok (.aaload, 1) := by decide +kernel
theorem dX5_exchange_38 : decode cX5_exchange 38 = .ok (.getfield 185, 3) := by decide +kernel
theorem dX5_exchange_41 : decode cX5_exchange 41 = .ok (.invokevirtual 181, 3) := by decide +kernel
theorem dX5_exchange_44 : decode cX5_exchange 44 = .ok (.aload_n 0, 1) := by decide +kernel
theorem dX5_exchange_45 : decode cX5_exchange 45 = .ok (.iload_n 2, 1) := by decide +kernel
theorem dX5_exchange_46 : decode cX5_exchange 46 = .ok (.iload_n 3, 1) := by decide +kernel
theorem dX5_exchange_47 : decode cX5_exchange 47 = .ok (.iload 4, 2) := by decide +kernel
theorem dX5_exchange_49 : decode cX5_exchange 49 = .ok (.invokevirtual 181, 3) := by decide +kernel
theorem dX5_exchange_52 : decode cX5_exchange 52 = .ok (.return_, 1) := by decide +kernel
theorem dX5_findBestSwap_0 : decode cX5_findBestSwap 0 = .ok (.aload_n 0, 1) := by decide +kernel
theorem dX5_findBestSwap_1 : decode cX5_findBestSwap 1 = .ok (.lconst 0, 1) := by decide +kernel
theorem dX5_findBestSwap_2 : decode cX5_findBestSwap 2 = .ok (.putfield 19, 3) := by decide +kernel
theorem dX5_findBestSwap_5 : decode cX5_findBestSwap 5 = .ok (.aload_n 0, 1) := by decide +kernel
theorem dX5_findBestSwap_6 : decode cX5_findBestSwap 6 = .ok (.sipush (-1005), 3) := by decide +kernel
theorem dX5_findBestSwap_9 : decode cX5_findBestSwap 9 = .ok (.putfield 23, 3) := by decide +kernel
theorem dX5_findBestSwap_12 : decode cX5_findBestSwap 12 = .ok (.aload_n 0, 1) := by decide +kernel
theorem dX5_findBestSwap_13 : decode cX5_findBestSwap 13 = .ok (.sipush (-1005), 3) := by decide +kernel
theorem dX5_findBestSwap_16 : decode cX5_findBestSwap 16 = .ok (.putfield 26, 3) := by decide +kernel
theorem dX5_findBestSwap_19 : decode cX5_findBestSwap 19 = .ok (.iconst 0, 1) := by decide +kernel
theorem dX5_findBestSwap_20 : decode cX5_findBestSwap 20 = .ok (.istore_n 1, 1) := by decide +kernel
theorem dX5_findBestSwap_21 : decode cX5_findBestSwap 21 = .ok (.iload_n 1, 1) := by decide +kernel
theorem dX5_findBestSwap_22 : decode cX5_findBestSwap 22 = .ok (.aload_n 0, 1) := by decide +kernel
theorem dX5_findBestSwap_23 : decode cX5_findBestSwap 23 = .ok (.getfield 51, 3) := by decide +kernel
theorem dX5_findBestSwap_26 : decode cX5_findBestSwap 26 = .ok (.getfield 67, 3) := by decide +kernel
theorem dX5_findBestSwap_29 : decode cX5_findBestSwap 29 = .ok (.if_icmp .ge 24, 3) := by decide +kernel
theorem dX5_findBestSwap_32 : decode cX5_findBestSwap 32 = .ok (.aload_n 0, 1) := by decide +kernel
theorem dX5_findBestSwap_33 : decode cX5_findBestSwap 33 = .ok (.getfield 15, 3) := by decide +kernel
theorem dX5_findBestSwap_36 : decode cX5_findBestSwap 36 = .ok (.iload_n 1, 1) := by decide +kernel
theorem dX5_findBestSwap_37 : decode cX5_findBestSwap 37 = .ok (.aload_n 0, 1) := by decide +kernel
theorem dX5_findBestSwap_38 : decode cX5_findBestSwap 38 = .ok (.getfield 63, 3) := by decide +kernel
theorem dX5_findBestSwap_41 : decode cX5_findBestSwap 41 = .ok (.iload_n 1, 1) := by decide +kernel
theorem dX5_findBestSwap_42 : decode cX5_findBestSwap 42 = .ok (.aaload, 1) := by decide +kernel
theorem dX5_findBestSwap_43 : decode cX5_findBestSwap 43 = .ok (.invokevirtual 158, 3) := by decide +kernel
theorem dX5_findBestSwap_46 : decode cX5_findBestSwap 46 = .ok (.lastore, 1) := by decide +kernel
theorem dX5_findBestSwap_47 : decode cX5_findBestSwap 47 = .ok (.iinc 1 1, 3) := by decide +kernel
theorem dX5_findBestSwap_50 : decode cX5_findBestSwap 50 = .ok (.goto (-29), 3) := by decide +kernel
theorem dX5_findBestSwap_53 : decode cX5_findBestSwap 53 = .ok (.iconst 0, 1) := by decide +kernel
theorem dX5_findBestSwap_54 : decode cX5_findBestSwap 54 = .ok (.istore_n 1, 1) := by decide +kernel
theorem dX5_findBestSwap_55 : decode cX5_findBestSwap 55 = .ok (.iload_n 1, 1) := by decide +kernel
theorem dX5_findBestSwap_56 : decode cX5_findBestSwap 56 = .ok (.aload_n 0, 1) := by decide +kernel
theorem dX5_findBestSwap_57 : decode cX5_findBestSwap 57 = .ok (.getfield 9, 3) := by decide +kernel
theorem dX5_findBestSwap_60 : decode cX5_findBestSwap 60 = .ok (.if_icmp .ge 136, 3) := by decide +kernel
theorem dX5_findBestSwap_63 : decode cX5_findBestSwap 63 = .ok (.iload_n 1, 1) := by decide +kernel
theorem dX5_findBestSwap_64 : decode cX5_findBestSwap 64 = .ok (.iconst 1, 1) := by decide +kernel
theorem dX5_findBestSwap_65 : decode cX5_findBestSwap 65 = .ok (.iadd, 1) := by decide +kernel
theorem dX5_findBestSwap_66 : decode cX5_findBestSwap 66 = .ok (.istore_n 2, 1) := by decide +kernel
theorem dX5_findBestSwap_67 : decode cX5_findBestSwap 67 = .ok (.iload_n 2, 1) := by decide +kernel
theorem dX5_findBestSwap_68 : decode cX5_findBestSwap 68 = .ok (.aload_n 0, 1) := by decide +kernel
theorem dX5_findBestSwap_69 : decode cX5_findBestSwap 69 = .ok (.getfield 9, 3) := by decide +kernel
theorem dX5_findBestSwap_72 : decode cX5_findBestSwap 72 = .ok (.if_icmp .ge 118, 3) := by decide +kernel
theorem dX5_findBestSwap_75 : decode cX5_findBestSwap 75 = .ok (.aload_n 0, 1) := by decide +kernel
theorem dX5_findBestSwap_76 : decode cX5_findBestSwap 76 = .ok (.getfield 59, 3) := by decide +kernel
theorem dX5_findBestSwap_79 : decode cX5_findBestSwap 79 = .ok (.iload_n 1, 1) := by decide +kernel
theorem dX5_findBestSwap_80 : decode cX5_findBestSwap 80 = .ok (.aaload, 1) := by decide +kernel
theorem dX5_findBestSwap_81 : decode cX5_findBestSwap 81 = .ok (.getfield 112, 3) := by decide +kernel
theorem dX5_findBestSwap_84 : decode cX5_findBestSwap 84 = .ok (.istore_n 3, 1) := by decide +kernel
theorem dX5_findBestSwap_85 : decode cX5_findBestSwap 85 = .ok (.aload_n 0, 1) := by decide +kernel
theorem dX5_findBestSwap_86 : decode cX5_findBestSwap 86 = .ok (.getfield 59, 3) := by decide +kernel
theorem dX5_findBestSwap_89 : decode cX5_findBestSwap 89 = .ok (.iload_n 2, 1) := by decide +kernel
theorem dX5_findBestSwap_90 : decode cX5_findBestSwap 90 = .ok (.aaload, 1) := by decide +kernel
theorem dX5_findBestSwap_91 : decode cX5_findBestSwap 91 = .ok (.getfield 112, 3) := by decide +kernel
theorem dX5_findBestSwap_94 : decode cX5_findBestSwap 94 = .ok (.istore 4, 2) := by decide +kernel
theorem dX5_findBestSwap_96 : decode cX5_findBestSwap 96 = .ok (.iload_n 3, 1) := by decide +kernel
theorem dX5_findBestSwap_97 : decode cX5_findBestSwap 97 = .ok (.iload 4, 2) := by decide +kernel
theorem dX5_findBestSwap_99 : decode cX5_findBestSwap 99 = .ok (.if_icmp .ne 6, 3) := by decide +kernel
theorem dX5_findBestSwap_102 : decode cX5_findBestSwap 102 = .ok (.goto 82, 3) := by decide +kernel
theorem dX5_findBestSwap_105 : decode cX5_findBestSwap 105 = .ok (.aload_n 0, 1) := by decide +kernel
theorem dX5_findBestSwap_106 : decode cX5_findBestSwap 106 = .ok (.iload_n 1, 1) := by decide +kernel
theorem dX5_findBestSwap_107 : decode cX5_findBestSwap 107 = .ok (.iload_n 2, 1) := by decide +kernel
theorem dX5_findBestSwap_108 : decode cX5_findBestSwap 108 = .ok (.invokevirtual 118, 3) := by decide +kernel
theorem dX5_findBestSwap_111 : decode cX5_findBestSwap 111 = .ok (.aload_n 0, 1) := by decide +kernel
theorem dX5_findBestSwap_112 : decode cX5_findBestSwap 112 = .ok (.getfield 63, 3) := by decide +kernel
theorem dX5_findBestSwap_115 : decode cX5_findBestSwap 115 = .ok (.iload_n 3, 1) := by decide +kernel
theorem dX5_findBestSwap_116 : decode cX5_findBestSwap 116 = .ok (.aaload, 1) := by decide +kernel
theorem dX5_findBestSwap_117 : decode cX5_findBestSwap 117 = .ok (.invokevirtual 158, 3) := by decide +kernel
theorem dX5_findBestSwap_120 : decode cX5_findBestSwap 120 = .ok (.aload_n 0, 1) := by decide +kernel
theorem dX5_findBestSwap_121 : decode cX5_findBestSwap 121 = .ok (.getfield 63, 3) := by decide +kernel
theorem dX5_findBestSwap_124 : decode cX5_findBestSwap 124 = .ok (.iload 4, 2) := by decide +kernel
theorem dX5_findBestSwap_126 : decode cX5_findBestSwap 126 = .ok (.aaload, 1) := by decide +kernel
theorem dX5_findBestSwap_127 : decode cX5_findBestSwap 127 = .ok (.invokevirtual 158, 3) := by decide +kernel
theorem dX5_findBestSwap_130 : decode cX5_findBestSwap 130 = .ok (.ladd, 1) := by decide +kernel
theorem dX5_findBestSwap_131 : decode cX5_findBestSwap 131 = .ok (.lstore 5, 2) := by decide +kernel
theorem dX5_findBestSwap_133 : decode cX5_findBestSwap 133 = .ok (.aload_n 0, 1) := by decide +kernel
theorem dX5_findBestSwap_134 : decode cX5_findBestSwap 134 = .ok (.iload_n 1, 1) := by decide +kernel
theorem dX5_findBestSwap_135 : decode cX5_findBestSwap 135 = .ok (.iload_n 2, 1) := by decide +kernel
theorem dX5_findBestSwap_136 : decode cX5_findBestSwap 136 = .ok (.invokevirtual 118, 3) := by decide +kernel
theorem dX5_findBestSwap_139 : decode cX5_findBestSwap 139 = .ok (.lload 5, 2) := by decide +kernel
theorem dX5_findBestSwap_141 : decode cX5_findBestSwap 141 = .ok (.aload_n 0, 1) := by decide +kernel
theorem dX5_findBestSwap_142 : decode cX5_findBestSwap 142 = .ok (.getfield 15, 3) := by decide +kernel
theorem dX5_findBestSwap_145 : decode cX5_findBestSwap 145 = .ok (.iload_n 3, 1) := by decide +kernel
theorem dX5_findBestSwap_146 : decode cX5_findBestSwap 146 = .ok (.laload, 1) := by decide +kernel
theorem dX5_findBestSwap_147 : decode cX5_findBestSwap 147 = .ok (.lsub, 1) := by decide +kernel
theorem dX5_findBestSwap_148 : decode cX5_findBestSwap 148 = .ok (.aload_n 0, 1) := by decide +kernel
theorem dX5_findBestSwap_149 : decode cX5_findBestSwap 149 = .ok (.getfield 15, 3) := by decide +kernel
theorem dX5_findBestSwap_152 : decode cX5_findBestSwap 152 = .ok (.iload 4, 2) := by decide +kernel
theorem dX5_findBestSwap_154 : decode cX5_findBestSwap 154 = .ok (.laload, 1) := by decide +kernel
theorem dX5_findBestSwap_155 : decode cX5_findBestSwap 155 = .ok (.lsub, 1) := by decide +kernel
theorem dX5_findBestSwap_156 : decode cX5_findBestSwap 156 = .ok (.lstore 7, 2) := by decide +kernel
theorem dX5_findBestSwap_158 : decode cX5_findBestSwap 158 = .ok (.lload 7, 2) := by decide +kernel
theorem dX5_findBestSwap_160 : decode cX5_findBestSwap 160 = .ok (.aload_n 0, 1) := by decide +kernel
theorem dX5_findBestSwap_161 : decode cX5_findBestSwap 161 = .ok (.getfield 19, 3) := by decide +kernel
theorem dX5_findBestSwap_164 : decode cX5_findBestSwap 164 = .ok (.lcmp, 1) := by decide +kernel
theorem dX5_findBestSwap_165 : decode cX5_findBestSwap 165 = .ok (.ifCond .le 19, 3) := by decide +kernel
theorem dX5_findBestSwap_168 : decode cX5_findBestSwap 168 = .ok (.aload_n 0, 1) := by decide +kernel
theorem dX5_findBestSwap_169 : decode cX5_findBestSwap 169 = .ok (.lload 7, 2) := by decide +kernel
theorem dX5_findBestSwap_171 : decode cX5_findBestSwap 171 = .ok (.putfield 19, 3) := by decide +kernel
theorem dX5_findBestSwap_174 : decode cX5_findBestSwap 174 = .ok (.aload_n 0, 1) := by decide +kernel
theorem dX5_findBestSwap_175 : decode cX5_findBestSwap 175 = .ok (.iload_n 1, 1) := by decide +kernel
theorem dX5_findBestSwap_176 : decode cX5_findBestSwap 176 = .ok (.putfield 23, 3) := by decide +kernel
theorem dX5_findBestSwap_179 : decode cX5_findBestSwap 179 = .ok (.aload_n 0, 1) := by decide +kernel
theorem dX5_findBestSwap_180 : decode cX5_findBestSwap 180 = .ok (.iload_n 2, 1) := by decide +kernel
theorem dX5_findBestSwap_181 : decode cX5_findBestSwap 181 = .ok (.putfield 26, 3) := by decide +kernel
theorem dX5_findBestSwap_184 : decode cX5_findBestSwap 184 = .ok (.iinc 2 1, 3) := by decide +kernel
theorem dX5_findBestSwap_187 : decode cX5_findBestSwap 187 = .ok (.goto (-120), 3) := by decide +kernel
theorem dX5_findBestSwap_190 : decode cX5_findBestSwap 190 = .ok (.iinc 1 1, 3) := by decide +kernel
theorem dX5_findBestSwap_193 : decode cX5_findBestSwap 193 = .ok (.goto (-138), 3) := by decide +kernel
theorem dX5_findBestSwap_196 : decode cX5_findBestSwap 196 = .ok (.return_, 1) := by decide +kernel
theorem dX5_sortByLightCurrent_0 : decode cX5_sortByLightCurrent 0 = .ok (.iconst 0, 1) := by decide +kernel
theorem dX5_sortByLightCurrent_1 : decode cX5_sortByLightCurrent 1 = .ok (.istore_n 1, 1) := by decide +kernel
theorem dX5_sortByLightCurrent_2 : decode cX5_sortByLightCurrent 2 = .ok (.iload_n 1, 1) := by decide +kernel
theorem dX5_sortByLightCurrent_3 : decode cX5_sortByLightCurrent 3 = .ok (.aload_n 0, 1) := by decide +kernel
theorem dX5_sortByLightCurrent_4 : decode cX5_sortByLightCurrent 4 = .ok (.getfield 9, 3) := by decide +kernel
theorem dX5_sortByLightCurrent_7 : decode cX5_sortByLightCurrent 7 = .ok (.if_icmp .ge 70, 3) := by decide +kernel
theorem dX5_sortByLightCurrent_10 : decode cX5_sortByLightCurrent 10 = .ok (.iload_n 1, 1) := by decide +kernel
theorem dX5_sortByLightCurrent_11 : decode cX5_sortByLightCurrent 11 = .ok (.istore_n 2, 1) := by decide +kernel
theorem dX5_sortByLightCurrent_12 : decode cX5_sortByLightCurrent 12 = .ok (.iload_n 2, 1) := by decide +kernel
theorem dX5_sortByLightCurrent_13 : decode cX5_sortByLightCurrent 13 = .ok (.ifCond .le 51, 3) := by decide +kernel
theorem dX5_sortByLightCurrent_16 : decode cX5_sortByLightCurrent 16 = .ok (.aload_n 0, 1) := by decide +kernel
theorem dX5_sortByLightCurrent_17 : decode cX5_sortByLightCurrent 17 = .ok (.getfield 59, 3) := by decide +kernel
theorem dX5_sortByLightCurrent_20 : decode cX5_sortByLightCurrent 20 = .ok (.aload_n 0, 1) := by decide +kernel
theorem dX5_sortByLightCurrent_21 : decode cX5_sortByLightCurrent 21 = .ok (.getfield 29, 3) := by decide +kernel
theorem dX5_sortByLightCurrent_24 : decode cX5_sortByLightCurrent 24 = .ok (.iload_n 2, 1) := by decide +kernel
theorem dX5_sortByLightCurrent_25 : decode cX5_sortByLightCurrent 25 = .ok (.iconst 1, 1) := by decide +kernel
theorem dX5_sortByLightCurrent_26 : decode cX5_sortByLightCurrent 26 = .ok (.isub, 1) := by decide +kernel
theorem dX5_sortByLightCurrent_27 : decode cX5_sortByLightCurrent 27 = .ok (.iaload, 1) := by decide +kernel
theorem dX5_sortByLightCurrent_28 : decode cX5_sortByLightCurrent 28 = .ok (.aaload, 1) := by decide +kernel
theorem dX5_sortByLightCurrent_29 : decode cX5_sortByLightCurrent 29 = .ok (.getfield 126, 3) := by decide +kernel
theorem dX5_sortByLightCurrent_32 : decode cX5_sortByLightCurrent 32 = .ok (.aload_n 0, 1) := by decide +kernel
theorem dX5_sortByLightCurrent_33 : decode cX5_sortByLightCurrent 33 = .ok (.getfield 59, 3) := by decide +kernel
theorem dX5_sortByLightCurrent_36 : decode cX5_sortByLightCurrent 36 = .ok (.iload_n 1, 1) := by decide +kernel
theorem dX5_sortByLightCurrent_37 : decode cX5_sortByLightCurrent 37 = .ok (.aaload, 1) := by decide +kernel
theorem dX5_sortByLightCurrent_38 : decode cX5_sortByLightCurrent 38 = .ok (.getfield 126, 3) := by decide +kernel
theorem dX5_sortByLightCurrent_41 : decode cX5_sortByLightCurrent 41 = .ok (.if_icmp .ge 23, 3) := by decide +kernel
theorem dX5_sortByLightCurrent_44 : decode cX5_sortByLightCurrent 44 = .ok (.aload_n 0, 1) := by decide +kernel
theorem dX5_sortByLightCurrent_45 : decode cX5_sortByLightCurrent 45 = .ok (.getfield 29, 3) := by decide +kernel
theorem dX5_sortByLightCurrent_48 : decode cX5_sortByLightCurrent 48 = .ok (.iload_n 2, 1) := by decide +kernel
theorem dX5_sortByLightCurrent_49 : decode cX5_sortByLightCurrent 49 = .ok (.aload_n 0, 1) := by decide +kernel
theorem dX5_sortByLightCurrent_50 : decode cX5_sortByLightCurrent 50 = .ok (.getfield 29, 3) := by decide +kernel
theorem dX5_sortByLightCurrent_53 : decode cX5_sortByLightCurrent 53 = .ok (.iload_n 2, 1) := by decide +kernel
theorem dX5_sortByLightCurrent_54 : decode cX5_sortByLightCurrent 54 = .ok (.iconst 1, 1) := by decide +kernel
theorem dX5_sortByLightCurrent_55 : decode cX5_sortByLightCurrent 55 = .ok (.isub, 1) := by decide +kernel
theorem dX5_sortByLightCurrent_56 : decode cX5_sortByLightCurrent 56 = .ok (.iaload, 1) := by decide +kernel
theorem dX5_sortByLightCurrent_57 : decode cX5_sortByLightCurrent 57 = .ok (.iastore, 1) := by decide +kernel
theorem dX5_sortByLightCurrent_58 : decode cX5_sortByLightCurrent 58 = .ok (.iinc 2 (-1), 3) := by decide +kernel
theorem dX5_sortByLightCurrent_61 : decode cX5_sortByLightCurrent 61 = .ok (.goto (-49), 3) := by decide +kernel
theorem dX5_sortByLightCurrent_64 : decode cX5_sortByLightCurrent 64 = .ok (.aload_n 0, 1) := by decide +kernel
theorem dX5_sortByLightCurrent_65 : decode cX5_sortByLightCurrent 65 = .ok (.getfield 29, 3) := by decide +kernel
theorem dX5_sortByLightCurrent_68 : decode cX5_sortByLightCurrent 68 = .ok (.iload_n 2, 1) := by decide +kernel
theorem dX5_sortByLightCurrent_69 : decode cX5_sortByLightCurrent 69 = .ok (.iload_n 1, 1) := by decide +kernel
theorem dX5_sortByLightCurrent_70 : decode cX5_sortByLightCurrent 70 = .ok (.iastore, 1) := by decide +kernel
theorem dX5_sortByLightCurrent_71 : decode cX5_sortByLightCurrent 71 = .ok (.iinc 1 1, 3) := by decide +kernel
theorem dX5_sortByLightCurrent_74 : decode cX5_sortByLightCurrent 74 = .ok (.goto (-72), 3) := by decide +kernel
theorem dX5_sortByLightCurrent_77 : decode cX5_sortByLightCurrent 77 = .ok (.return_, 1) := by decide +kernel
