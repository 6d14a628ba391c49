theorem dX6_init_0 : decode cX6_init 0 = .ok (.aload_n 0, 1) := by decide +kernel
theorem dX6_init_1 : decode cX6_init 1 = .ok (.invokespecial 1, 3) := by decide +kernel
theorem dX6_init_4 : decode cX6_init 4 = .ok (.aload_n 0, 1) := by decide +kernel
theorem dX6_init_5 : decode cX6_init 5 = .ok (.bipush 24, 2) := by decide +kernel
theorem dX6_init_7 : decode cX6_init 7 = .ok (.newarray .int, 2) := by decide +kernel
theorem dX6_init_9 : decode cX6_init 9 = .ok (.putfield 7, 3) := by decide +kernel
theorem dX6_init_12 : decode cX6_init 12 = .ok (.aload_n 0, 1) := by decide +kernel
theorem dX6_init_13 : decode cX6_init 13 = .ok (.bipush 24, 2) := by decide +kernel
theorem dX6_init_15 : decode cX6_init 15 = .ok (.newarray .int, 2) := by decide +kernel
theorem dX6_init_17 : decode cX6_init 17 = .ok (.putfield 13, 3) := by decide +kernel
theorem dX6_init_20 : decode cX6_init 20 = .ok (.aload_n 0, 1) := by decide +kernel
theorem dX6_init_21 : decode cX6_init 21 = .ok (.bipush 24, 2) := by decide +kernel
theorem dX6_init_23 : decode cX6_init 23 = .ok (.newarray .int, 2) := by decide +kernel
theorem dX6_init_25 : decode cX6_init 25 = .ok (.putfield 16, 3) := by decide +kernel
theorem dX6_init_28 : decode cX6_init 28 = .ok (.aload_n 0, 1) := by decide +kernel
theorem dX6_init_29 : decode cX6_init 29 = .ok (.bipush 24, 2) := by decide +kernel
theorem dX6_init_31 : decode cX6_init 31 = .ok (.newarray .int, 2) := by decide +kernel
theorem dX6_init_33 : decode cX6_init 33 = .ok (.putfield 19, 3) := by decide +kernel
theorem dX6_init_36 : decode cX6_init 36 = .ok (.aload_n 0, 1) := by decide +kernel
theorem dX6_init_37 : decode cX6_init 37 = .ok (.bipush 24, 2) := by decide +kernel
theorem dX6_init_39 : decode cX6_init 39 = .ok (.newarray .boolean, 2) := by decide +kernel
theorem dX6_init_41 : decode cX6_init 41 = .ok (.putfield 22, 3) := by decide +kernel
theorem dX6_init_44 : decode cX6_init 44 = .ok (.aload_n 0, 1) := by decide +kernel
theorem dX6_init_45 : decode cX6_init 45 = .ok (.bipush 6, 2) := by decide +kernel
theorem dX6_init_47 : decode cX6_init 47 = .ok (.newarray .int, 2) := by decide +kernel
theorem dX6_init_49 : decode cX6_init 49 = .ok (.putfield 26, 3) := by decide +kernel
theorem dX6_init_52 : decode cX6_init 52 = .ok (.aload_n 0, 1) := by decide +kernel
theorem dX6_init_53 : decode cX6_init 53 = .ok (.bipush 72, 2) := by decide +kernel
theorem dX6_init_55 : decode cX6_init 55 = .ok (.newarray .int, 2) := by decide +kernel
theorem dX6_init_57 : decode cX6_init 57 = .ok (.putfield 29, 3) := by decide +kernel
theorem dX6_init_60 : decode cX6_init 60 = .ok (.aload_n 0, 1) := by decide +kernel
theorem dX6_init_61 : decode cX6_init 61 = .ok (.sipush 1201, 3) := by decide +kernel
theorem dX6_init_64 : decode cX6_init 64 = .ok (.newarray .long, 2) := by decide +kernel
theorem dX6_init_66 : decode cX6_init 66 = .ok (.putfield 32, 3) := by decide +kernel
theorem dX6_init_69 : decode cX6_init 69 = .ok (.aload_n 0, 1) := by decide +kernel
theorem dX6_init_70 : decode cX6_init 70 = .ok (.sipush 7201, 3) := by decide +kernel
theorem dX6_init_73 : decode cX6_init 73 = .ok (.newarray .int, 2) := by decide +kernel
theorem dX6_init_75 : decode cX6_init 75 = .ok (.putfield 36, 3) := by decide +kernel
theorem dX6_init_78 : decode cX6_init 78 = .ok (.aload_n 0, 1) := by decide +kernel
theorem dX6_init_79 : decode cX6_init 79 = .ok (.bipush 6, 2) := by decide +kernel
theorem dX6_init_81 : decode cX6_init 81 = .ok (.newarray .long, 2) := by decide +kernel
theorem dX6_init_83 : decode cX6_init 83 = .ok (.putfield 39, 3) := by decide +kernel
theorem dX6_init_86 : decode cX6_init 86 = .ok (.aload_n 0, 1) := by decide +kernel
theorem dX6_init_87 : decode cX6_init 87 = .ok (.bipush 24, 2) := by decide +kernel
theorem dX6_init_89 : decode cX6_init 89 = .ok (.newarray .int, 2) := by decide +kernel
theorem dX6_init_91 : decode cX6_init 91 = .ok (.putfield 42, 3) := by decide +kernel
theorem dX6_init_94 : decode cX6_init 94 = .ok (.aload_n 0, 1) := by decide +kernel
theorem dX6_init_95 : decode cX6_init 95 = .ok (.bipush 24, 2) := by decide +kernel
theorem dX6_init_97 : decode cX6_init 97 = .ok (.newarray .int, 2) := by decide +kernel
theorem dX6_init_99 : decode cX6_init 99 = .ok (.putfield 45, 3) := by decide +kernel
theorem dX6_init_102 : decode cX6_init 102 = .ok (.aload_n 0, 1) := by decide +kernel
theorem dX6_init_103 : decode cX6_init 103 = .ok (.bipush 7, 2) := by decide +kernel
theorem dX6_init_105 : decode cX6_init 105 = .ok (.putfield 48, 3) := by decide +kernel
theorem dX6_init_108 : decode cX6_init 108 = .ok (.return_, 1) := by decide +kernel
theorem dX6_isBetween_0 : decode cX6_isBetween 0 = .ok (.iload_n 0, 1) := by decide +kernel
theorem dX6_isBetween_1 : decode cX6_isBetween 1 = .ok (.iload_n 1, 1) := by decide +kernel
theorem dX6_isBetween_2 : decode cX6_isBetween 2 = .ok (.if_icmp .lt 12, 3) := by decide +kernel
theorem dX6_isBetween_5 : decode cX6_isBetween 5 = .ok (.iload_n 0, 1) := by decide +kernel
theorem dX6_isBetween_6 : decode cX6_isBetween 6 = .ok (.iload_n 2, 1) := by decide +kernel
theorem dX6_isBetween_7 : decode cX6_isBetween 7 = .ok (.if_icmp .gt 7, 3) := by decide +kernel
theorem dX6_isBetween_10 : decode cX6_isBetween 10 = .ok (.iconst 1, 1) := by decide +kernel
theorem dX6_isBetween_11 : decode cX6_isBetween 11 = .ok (.goto 4, 3) := by decide +kernel
theorem dX6_isBetween_14 : decode cX6_isBetween 14 = .ok (.iconst 0, 1) := by decide +kernel
theorem dX6_isBetween_15 : decode cX6_isBetween 15 = .ok (.ireturn, 1) := by decide +kernel
theorem dX6_isModule_0 : decode cX6_isModule 0 = .ok (.iload_n 1, 1) := by decide +kernel
theorem dX6_isModule_1 : decode cX6_isModule 1 = .ok (.iconst 0, 1) := by decide +kernel
theorem dX6_isModule_2 : decode cX6_isModule 2 = .ok (.aload_n 0, 1) := by decide +kernel
theorem dX6_isModule_3 : decode cX6_isModule 3 = .ok (.getfield 52, 3) := by decide +kernel
theorem dX6_isModule_6 : decode cX6_isModule 6 = .ok (.iconst 1, 1) := by decide +kernel
theorem dX6_isModule_7 : decode cX6_isModule 7 = .ok (.isub, 1) := by decide +kernel
theorem dX6_isModule_8 : decode cX6_isModule 8 = .ok (.invokestatic 55, 3) := by decide +kernel
theorem dX6_isModule_11 : decode cX6_isModule 11 = .ok (.ireturn, 1) := by decide +kernel
theorem dX6_isString_0 : decode cX6_isString 0 = .ok (.iload_n 1, 1) := by decide +kernel
theorem dX6_isString_1 : decode cX6_isString 1 = .ok (.iconst 0, 1) := by decide +kernel
theorem dX6_isString_2 : decode cX6_isString 2 = .ok (.aload_n 0, 1) := by decide +kernel
theorem dX6_isString_3 : decode cX6_isString 3 = .ok (.getfield 59, 3) := by decide +kernel
theorem dX6_isString_6 : decode cX6_isString 6 = .ok (.iconst 1, 1) := by decide +kernel
theorem dX6_isString_7 : decode cX6_isString 7 = .ok (.isub, 1) := by decide +kernel
theorem dX6_isString_8 : decode cX6_isString 8 = .ok (.invokestatic 55, 3) := by decide +kernel
theorem dX6_isString_11 : decode cX6_isString 11 = .ok (.ireturn, 1) := by decide +kernel
theorem dX6_addString_0 : decode cX6_addString 0 = .ok (.aload_n 0, 1) := by decide +kernel
theorem dX6_addString_1 : decode cX6_addString 1 = .ok (.getfield 59, 3) := by decide +kernel
theorem dX6_addString_4 : decode cX6_addString 4 = .ok (.bipush 6, 2) := by decide +kernel
theorem dX6_addString_6 : decode cX6_addString 6 = .ok (.if_icmp .ne 7, 3) := by decide +kernel
theorem dX6_addString_9 : decode cX6_addString 9 = .ok (.sipush (-1004), 3) := by decide +kernel
theorem dX6_addString_12 : decode cX6_addString 12 = .ok (.ireturn, 1) := by decide +kernel
theorem dX6_addString_13 : decode cX6_addString 13 = .ok (.aload_n 0, 1) := by decide +kernel
theorem dX6_addString_14 : decode cX6_addString 14 = .ok (.getfield 26, 3) := by decide +kernel
theorem dX6_addString_17 : decode cX6_addString 17 = .ok (.aload_n 0, 1) := by decide +kernel
theorem dX6_addString_18 : decode cX6_addString 18 = .ok (.getfield 59, 3) := by decide +kernel
theorem dX6_addString_21 : decode cX6_addString 21 = .ok (.iconst 0, 1) := by decide +kernel
theorem dX6_addString_22 : decode cX6_addString 22 = .ok (.iastore, 1) := by decide +kernel
theorem dX6_addString_23 : decode cX6_addString 23 = .ok (.aload_n 0, 1) := by decide +kernel
theorem dX6_addString_24 : decode cX6_addString 24 = .ok (.dup, 1) := by decide +kernel
theorem dX6_addString_25 : decode cX6_addString 25 = .ok (.getfield 59, 3) := by decide +kernel
theorem dX6_addString_28 : decode cX6_addString 28 = .ok (.iconst 1, 1) := by decide +kernel
theorem dX6_addString_29 : decode cX6_addString 29 = .ok (.iadd, 1) := by decide +kernel
theorem dX6_addString_30 : decode cX6_addString 30 = .ok (.putfield 59, 3) := by decide +kernel
theorem dX6_addString_33 : decode cX6_addString 33 = .ok (.aload_n 0, 1) := by decide +kernel
theorem dX6_addString_34 : decode cX6_addString 34 = .ok (.getfield 59, 3) := by decide +kernel
theorem dX6_addString_37 : decode cX6_addString 37 = .ok (.iconst 1, 1) := by decide +kernel
theorem dX6_addString_38 : decode cX6_addString 38 = .ok (.isub, 1) := by decide +kernel
theorem dX6_addString_39 : decode cX6_addString 39 = .ok (.ireturn, 1) := by decide +kernel
theorem dX6_addModule_0 : decode cX6_addModule 0 = .ok (.aload_n 0, 1) := by decide +kernel
theorem dX6_addModule_1 : decode cX6_addModule 1 = .ok (.iload_n 1, 1) := by decide +kernel
theorem dX6_addModule_2 : decode cX6_addModule 2 = .ok (.invokevirtual 62, 3) := by decide +kernel
theorem dX6_addModule_5 : decode cX6_addModule 5 = .ok (.ifCond .ne 7, 3) := by decide +kernel
theorem dX6_addModule_8 : decode cX6_addModule 8 = .ok (.sipush (-1001), 3) := by decide +kernel
theorem dX6_addModule_11 : decode cX6_addModule 11 = .ok (.ireturn, 1) := by decide +kernel
theorem dX6_addModule_12 : decode cX6_addModule 12 = .ok (.iload_n 2, 1) := by decide +kernel
theorem dX6_addModule_13 : decode cX6_addModule 13 = .ok (.iconst 1, 1) := by decide +kernel
theorem dX6_addModule_14 : decode cX6_addModule 14 = .ok (.sipush 1000, 3) := by decide +kernel
theorem dX6_addModule_17 : decode cX6_addModule 17 = .ok (.invokestatic 55, 3) := by decide +kernel
theorem dX6_addModule_20 : decode cX6_addModule 20 = .ok (.ifCond .eq 14, 3) := by decide +kernel
theorem dX6_addModule_23 : decode cX6_addModule 23 = .ok (.iload_n 3, 1) := by decide +kernel
theorem dX6_addModule_24 : decode cX6_addModule 24 = .ok (.iconst 1, 1) := by decide +kernel
theorem dX6_addModule_25 : decode cX6_addModule 25 = .ok (.sipush 600, 3) := by decide +kernel
theorem dX6_addModule_28 : decode cX6_addModule 28 = .ok (.invokestatic 55, 3) := by decide +kernel
theorem dX6_addModule_31 : decode cX6_addModule 31 = .ok (.ifCond .ne 7, 3) := by decide +kernel
theorem dX6_addModule_34 : decode cX6_addModule 34 = .ok (.sipush (-1003), 3) := by decide +kernel
theorem dX6_addModule_37 : decode cX6_addModule 37 = .ok (.ireturn, 1) := by decide +kernel
theorem dX6_addModule_38 : decode cX6_addModule 38 = .ok (.aload_n 0, 1) := by decide +kernel
theorem dX6_addModule_39 : decode cX6_addModule 39 = .ok (.getfield 52, 3) := by decide +kernel
theorem dX6_addModule_42 : decode cX6_addModule 42 = .ok (.bipush 24, 2) := by decide +kernel
theorem dX6_addModule_44 : decode cX6_addModule 44 = .ok (.if_icmp .eq 14, 3) := by decide +kernel
theorem dX6_addModule_47 : decode cX6_addModule 47 = .ok (.aload_n 0, 1) := by decide +kernel
theorem dX6_addModule_48 : decode cX6_addModule 48 = .ok (.getfield 26, 3) := by decide +kernel
theorem dX6_addModule_51 : decode cX6_addModule 51 = .ok (.iload_n 1, 1) := by decide +kernel
theorem dX6_addModule_52 : decode cX6_addModule 52 = .ok (.iaload, 1) := by decide +kernel
theorem dX6_addModule_53 : decode cX6_addModule 53 = .ok (.bipush 12, 2) := by decide +kernel
theorem dX6_addModule_55 : decode cX6_addModule 55 = .ok (.if_icmp .ne 7, 3) := by decide +kernel
theorem dX6_addModule_58 : decode cX6_addModule 58 = .ok (.sipush (-1004), 3) := by decide +kernel
theorem dX6_addModule_61 : decode cX6_addModule 61 = .ok (.ireturn, 1) := by decide +kernel
theorem dX6_addModule_62 : decode cX6_addModule 62 = .ok (.aload_n 0, 1) := by decide +kernel
theorem dX6_addModule_63 : decode cX6_addModule 63 = .ok (.getfield 7, 3) := by decide +kernel
theorem dX6_addModule_66 : decode cX6_addModule 66 = .ok (.aload_n 0, 1) := by decide +kernel
theorem dX6_addModule_67 : decode cX6_addModule 67 = .ok (.getfield 52, 3) := by decide +kernel
theorem dX6_addModule_70 : decode cX6_addModule 70 = .ok (.iload_n 2, 1) := by decide +kernel
theorem dX6_addModule_71 : decode cX6_addModule 71 = .ok (.iastore, 1) := by decide +kernel
theorem dX6_addModule_72 : decode cX6_addModule 72 = .ok (.aload_n 0, 1) := by decide +kernel
theorem dX6_addModule_73 : decode cX6_addModule 73 = .ok (.getfield 13, 3) := by decide +kernel
theorem dX6_addModule_76 : decode cX6_addModule 76 = .ok (.aload_n 0, 1) := by decide +kernel
theorem dX6_addModule_77 : decode cX6_addModule 77 = .ok (.getfield 52, 3) := by decide +kernel
theorem dX6_addModule_80 : decode cX6_addModule 80 = .ok (.iload_n 3, 1) := by decide +kernel
theorem dX6_addModule_81 : decode cX6_addModule 81 = .ok (.iastore, 1) := by decide +kernel
theorem dX6_addModule_82 : decode cX6_addModule 82 = .ok (.aload_n 0, 1) := by decide +kernel
theorem dX6_addModule_83 : decode cX6_addModule 83 = .ok (.getfield 16, 3) := by decide +kernel
theorem dX6_addModule_86 : decode cX6_addModule 86 = .ok (.aload_n 0, 1) := by decide +kernel
theorem dX6_addModule_87 : decode cX6_addModule 87 = .ok (.getfield 52, 3) := by decide +kernel
theorem dX6_addModule_90 : decode cX6_addModule 90 = .ok (.sipush 1000, 3) := by decide +kernel
theorem dX6_addModule_93 : decode cX6_addModule 93 = .ok (.iastore, 1) := by decide +kernel
theorem dX6_addModule_94 : decode cX6_addModule 94 = .ok (.aload_n 0, 1) := by decide +kernel
theorem dX6_addModule_95 : decode cX6_addModule 95 = .ok (.getfield 19, 3) := by decide +kernel
theorem dX6_addModule_98 : decode cX6_addModule 98 = .ok (.aload_n 0, 1) := by decide +kernel
theorem dX6_addModule_99 : decode cX6_addModule 99 = .ok (.getfield 52, 3) := by decide +kernel
theorem dX6_addModule_102 : decode cX6_addModule 102 = .ok (.iconst 0, 1) := by decide +kernel
theorem dX6_addModule_103 : decode cX6_addModule 103 = .ok (.iastore, 1) := by decide +kernel
theorem dX6_addModule_104 : decode cX6_addModule 104 = .ok (.aload_n 0, 1) := by decide +kernel
theorem dX6_addModule_105 : decode cX6_addModule 105 = .ok (.getfield 22, 3) := by decide +kernel
theorem dX6_addModule_108 : decode cX6_addModule 108 = .ok (.aload_n 0, 1) := by decide +kernel
theorem dX6_addModule_109 : decode cX6_addModule 109 = .ok (.getfield 52, 3) := by decide +kernel
theorem dX6_addModule_112 : decode cX6_addModule 112 = .ok (.iconst 1, 1) := by decide +kernel
theorem dX6_addModule_113 : decode cX6_addModule 113 = .ok (.bastore, 1) := by decide +kernel
theorem dX6_addModule_114 : decode cX6_addModule 114 = .ok (.aload_n 0, 1) := by decide +kernel
theorem dX6_addModule_115 : decode cX6_addModule 115 = .ok (.aload_n 0, 1) := by decide +kernel
theorem dX6_addModule_116 : decode cX6_addModule 116 = .ok (.getfield 52, 3) := by decide +kernel
theorem dX6_addModule_119 : decode cX6_addModule 119 = .ok (.iload_n 1, 1) := by decide +kernel
theorem dX6_addModule_120 : decode cX6_addModule 120 = .ok (.invokevirtual 66, 3) := by decide +kernel
theorem dX6_addModule_123 : decode cX6_addModule 123 = .ok (.aload_n 0, 1) := by decide +kernel
theorem dX6_addModule_124 : decode cX6_addModule 124 = .ok (.dup, 1) := by decide +kernel
theorem dX6_addModule_125 : decode cX6_addModule 125 = .ok (.getfield 52, 3) := by decide +kernel
theorem dX6_addModule_128 : decode cX6_addModule 128 = .ok (.iconst 1, 1) := by decide +kernel
theorem dX6_addModule_129 : decode cX6_addModule 129 = .ok (.iadd, 1) := by decide +kernel
theorem dX6_addModule_130 : decode cX6_addModule 130 = .ok (.putfield 52, 3) := by decide +kernel
theorem dX6_addModule_133 : decode cX6_addModule 133 = .ok (.aload_n 0, 1) := by decide +kernel
theorem dX6_addModule_134 : decode cX6_addModule 134 = .ok (.getfield 52, 3) := by decide +kernel
theorem dX6_addModule_137 : decode cX6_addModule 137 = .ok (.iconst 1, 1) := by decide +kernel
theorem dX6_addModule_138 : decode cX6_addModule 138 = .ok (.isub, 1) := by decide +kernel
theorem dX6_addModule_139 : decode cX6_addModule 139 = .ok (.ireturn, 1) := by decide +kernel
theorem dX6_setIrradiance_0 : decode cX6_setIrradiance 0 = .ok (.aload_n 0, 1) := by decide +kernel
theorem dX6_setIrradiance_1 : decode cX6_setIrradiance 1 = .ok (.iload_n 1, 1) := by decide +kernel
theorem dX6_setIrradiance_2 : decode cX6_setIrradiance 2 = .ok (.invokevirtual 70, 3) := by decide +kernel
theorem dX6_setIrradiance_5 : decode cX6_setIrradiance 5 = .ok (.ifCond .ne 7, 3) := by decide +kernel
theorem dX6_setIrradiance_8 : decode cX6_setIrradiance 8 = .ok (.sipush (-1002), 3) := by decide +kernel
theorem dX6_setIrradiance_11 : decode cX6_setIrradiance 11 = .ok (.ireturn, 1) := by decide +kernel
theorem dX6_setIrradiance_12 : decode cX6_setIrradiance 12 = .ok (.iload_n 2, 1) := by decide +kernel
theorem dX6_setIrradiance_13 : decode cX6_setIrradiance 13 = .ok (.iconst 0, 1) := by decide +kernel
theorem dX6_setIrradiance_14 : decode cX6_setIrradiance 14 = .ok (.sipush 1200, 3) := by decide +kernel
theorem dX6_setIrradiance_17 : decode cX6_setIrradiance 17 = .ok (.invokestatic 55, 3) := by decide +kernel
theorem dX6_setIrradiance_20 : decode cX6_setIrradiance 20 = .ok (.ifCond .ne 7, 3) := by decide +kernel
theorem dX6_setIrradiance_23 : decode cX6_setIrradiance 23 = .ok (.sipush (-1003), 3) := by decide +kernel
theorem dX6_setIrradiance_26 : decode cX6_setIrradiance 26 = .ok (.ireturn, 1) := by decide +kernel
theorem dX6_setIrradiance_27 : decode cX6_setIrradiance 27 = .ok (.aload_n 0, 1) := by decide +kernel
theorem dX6_setIrradiance_28 : decode cX6_setIrradiance 28 = .ok (.getfield 16, 3) := by decide +kernel
theorem dX6_setIrradiance_31 : decode cX6_setIrradiance 31 = .ok (.iload_n 1, 1) := by decide +kernel
theorem dX6_setIrradiance_32 : decode cX6_setIrradiance 32 = .ok (.iaload, 1) := by decide +kernel
theorem dX6_setIrradiance_33 : decode cX6_setIrradiance 33 = .ok (.istore_n 3, 1) := by decide +kernel
theorem dX6_setIrradiance_34 : decode cX6_setIrradiance 34 = .ok (.aload_n 0, 1) := by decide +kernel
theorem dX6_setIrradiance_35 : decode cX6_setIrradiance 35 = .ok (.getfield 16, 3) := by decide +kernel
theorem dX6_setIrradiance_38 : decode cX6_setIrradiance 38 = .ok (.iload_n 1, 1) := by decide +kernel
theorem dX6_setIrradiance_39 : decode cX6_setIrradiance 39 = .ok (.iload_n 2, 1) := by decide +kernel
theorem dX6_setIrradiance_40 : decode cX6_setIrradiance 40 = .ok (.iastore, 1) := by decide +kernel
theorem dX6_setIrradiance_41 : decode cX6_setIrradiance 41 = .ok (.iload_n 3, 1) := by decide +kernel
theorem dX6_setIrradiance_42 : decode cX6_setIrradiance 42 = .ok (.ireturn, 1) := by decide +kernel
theorem dX6_shade_0 : decode cX6_shade 0 = .ok (.aload_n 0, 1) := by decide +kernel
theorem dX6_shade_1 : decode cX6_shade 1 = .ok (.iload_n 1, 1) := by decide +kernel
theorem dX6_shade_2 : decode cX6_shade 2 = .ok (.invokevirtual 70, 3) := by decide +kernel
theorem dX6_shade_5 : decode cX6_shade 5 = .ok (.ifCond .eq 11, 3) := by decide +kernel
theorem dX6_shade_8 : decode cX6_shade 8 = .ok (.aload_n 0, 1) := by decide +kernel
theorem dX6_shade_9 : decode cX6_shade 9 = .ok (.iload_n 2, 1) := by decide +kernel
theorem dX6_shade_10 : decode cX6_shade 10 = .ok (.invokevirtual 70, 3) := by decide +kernel
theorem dX6_shade_13 : decode cX6_shade 13 = .ok (.ifCond .ne 7, 3) := by decide +kernel
theorem dX6_shade_16 : decode cX6_shade 16 = .ok (.sipush (-1002), 3) := by decide +kernel
theorem dX6_shade_19 : decode cX6_shade 19 = .ok (.ireturn, 1) := by decide +kernel
theorem dX6_shade_20 : decode cX6_shade 20 = .ok (.iload_n 1, 1) := by decide +kernel
theorem dX6_shade_21 : decode cX6_shade 21 = .ok (.iload_n 2, 1) := by decide +kernel
theorem dX6_shade_22 : decode cX6_shade 22 = .ok (.if_icmp .gt 13, 3) := by decide +kernel
theorem dX6_shade_25 : decode cX6_shade 25 = .ok (.iload_n 3, 1) := by decide +kernel
theorem dX6_shade_26 : decode cX6_shade 26 = .ok (.iconst 0, 1) := by decide +kernel
theorem dX6_shade_27 : decode cX6_shade 27 = .ok (.bipush 100, 2) := by decide +kernel
theorem dX6_shade_29 : decode cX6_shade 29 = .ok (.invokestatic 55, 3) := by decide +kernel
theorem dX6_shade_32 : decode cX6_shade 32 = .ok (.ifCond .ne 7, 3) := by decide +kernel
theorem dX6_shade_35 : decode cX6_shade 35 = .ok (.sipush (-1003), 3) := by decide +kernel
theorem dX6_shade_38 : decode cX6_shade 38 = .ok (.ireturn, 1) := by decide +kernel
theorem dX6_shade_39 : decode cX6_shade 39 = .ok (.iconst 0, 1) := by decide +kernel
theorem dX6_shade_40 : decode cX6_shade 40 = .ok (.istore 4, 2) := by decide +kernel
theorem dX6_shade_42 : decode cX6_shade 42 = .ok (.iload_n 1, 1) := by decide +kernel
theorem dX6_shade_43 : decode cX6_shade 43 = .ok (.istore 5, 2) := by decide +kernel
theorem dX6_shade_45 : decode cX6_shade 45 = .ok (.iload 5, 2) := by decide +kernel
theorem dX6_shade_47 : decode cX6_shade 47 = .ok (.iload_n 2, 1) := by decide +kernel
theorem dX6_shade_48 : decode cX6_shade 48 = .ok (.if_icmp .gt 57, 3) := by decide +kernel
theorem dX6_shade_51 : decode cX6_shade 51 = .ok (.aload_n 0, 1) := by decide +kernel
theorem dX6_shade_52 : decode cX6_shade 52 = .ok (.getfield 16, 3) := by decide +kernel
theorem dX6_shade_55 : decode cX6_shade 55 = .ok (.iload 5, 2) := by decide +kernel
theorem dX6_shade_57 : decode cX6_shade 57 = .ok (.iaload, 1) := by decide +kernel
theorem dX6_shade_58 : decode cX6_shade 58 = .ok (.bipush 100, 2) := by decide +kernel
theorem dX6_shade_60 : decode cX6_shade 60 = .ok (.iload_n 3, 1) := by decide +kernel
theorem dX6_shade_61 : decode cX6_shade 61 = .ok (.isub, 1) := by decide +kernel
theorem dX6_shade_62 : decode cX6_shade 62 = .ok (.imul, 1) := by decide +kernel
theorem dX6_shade_63 : decode cX6_shade 63 = .ok (.bipush 100, 2) := by decide +kernel
theorem dX6_shade_65 : decode cX6_shade 65 = .ok (.idiv, 1) := by decide +kernel
theorem dX6_shade_66 : decode cX6_shade 66 = .ok (.istore 6, 2) := by decide +kernel
theorem dX6_shade_68 : decode cX6_shade 68 = .ok (.iload 4, 2) := by decide +kernel
theorem dX6_shade_70 : decode cX6_shade 70 = .ok (.iload 6, 2) := by decide +kernel
theorem dX6_shade_72 : decode cX6_shade 72 = .ok (.aload_n 0, 1) := by decide +kernel
theorem dX6_shade_73 : decode cX6_shade 73 = .ok (.getfield 16, 3) := by decide +kernel
theorem dX6_shade_76 : decode cX6_shade 76 = .ok (.iload 5, 2) := by decide +kernel
theorem dX6_shade_78 : decode cX6_shade 78 = .ok (.iaload, 1) := by decide +kernel
theorem dX6_shade_79 : decode cX6_shade 79 = .ok (.if_icmp .ne 7, 3) := by decide +kernel
theorem dX6_shade_82 : decode cX6_shade 82 = .ok (.iconst 0, 1) := by decide +kernel
theorem dX6_shade_83 : decode cX6_shade 83 = .ok (.goto 4, 3) := by decide +kernel
theorem dX6_shade_86 : decode cX6_shade 86 = .ok (.iconst 1, 1) := by decide +kernel
theorem dX6_shade_87 : decode cX6_shade 87 = .ok (.iadd, 1) := by decide +kernel
theorem dX6_shade_88 : decode cX6_shade 88 = .ok (.istore 4, 2) := by decide +kernel
theorem dX6_shade_90 : decode cX6_shade 90 = .ok (.aload_n 0, 1) := by decide +kernel
theorem dX6_shade_91 : decode cX6_shade 91 = .ok (.getfield 16, 3) := by decide +kernel
theorem dX6_shade_94 : decode cX6_shade 94 = .ok (.iload 5, 2) := by decide +kernel
theorem dX6_shade_96 : decode cX6_shade 96 = .ok (.iload 6, 2) := by decide +kernel
theorem dX6_shade_98 : decode cX6_shade 98 = .ok (.iastore, 1) := by decide +kernel
theorem dX6_shade_99 : decode cX6_shade 99 = .ok (.iinc 5 1, 3) := by decide +kernel
theorem dX6_shade_102 : decode cX6_shade 102 = .ok (.goto (-57), 3) := by decide +kernel
theorem dX6_shade_105 : decode cX6_shade 105 = .ok (.iload 4, 2) := by decide +kernel
theorem dX6_shade_107 : decode cX6_shade 107 = .ok (.ireturn, 1) := by decide +kernel
theorem dX6_setResistance_0 : decode cX6_setResistance 0 = .ok (.aload_n 0, 1) := by decide +kernel
theorem dX6_setResistance_1 : decode cX6_setResistance 1 = .ok (.iload_n 1, 1) := by decide +kernel
theorem dX6_setResistance_2 : decode cX6_setResistance 2 = .ok (.invokevirtual 70, 3) := by decide +kernel
theorem dX6_setResistance_5 : decode cX6_setResistance 5 = .ok (.ifCond .ne 7, 3) := by decide +kernel
theorem dX6_setResistance_8 : decode cX6_setResistance 8 = .ok (.sipush (-1002), 3) := by decide +kernel
theorem dX6_setResistance_11 : decode cX6_setResistance 11 = .ok (.ireturn, 1) := by decide +kernel
theorem dX6_setResistance_12 : decode cX6_setResistance 12 = .ok (.iload_n 2, 1) := by decide +kernel
theorem dX6_setResistance_13 : decode cX6_setResistance 13 = .ok (.iconst 0, 1) := by decide +kernel
theorem dX6_setResistance_14 : decode cX6_setResistance 14 = .ok (.sipush 5000, 3) := by decide +kernel
theorem dX6_setResistance_17 : decode cX6_setResistance 17 = .ok (.invokestatic 55, 3) := by decide +kernel
theorem dX6_setResistance_20 : decode cX6_setResistance 20 = .ok (.ifCond .ne 7, 3) := by decide +kernel
theorem dX6_setResistance_23 : decode cX6_setResistance 23 = .ok (.sipush (-1003), 3) := by decide +kernel
theorem dX6_setResistance_26 : decode cX6_setResistance 26 = .ok (.ireturn, 1) := by decide +kernel
theorem dX6_setResistance_27 : decode cX6_setResistance 27 = .ok (.aload_n 0, 1) := by decide +kernel
theorem dX6_setResistance_28 : decode cX6_setResistance 28 = .ok (.getfield 19, 3) := by decide +kernel
theorem dX6_setResistance_31 : decode cX6_setResistance 31 = .ok (.iload_n 1, 1) := by decide +kernel
theorem dX6_setResistance_32 : decode cX6_setResistance 32 = .ok (.iaload, 1) := by decide +kernel
theorem dX6_setResistance_33 : decode cX6_setResistance 33 = .ok (.istore_n 3, 1) := by decide +kernel
theorem dX6_setResistance_34 : decode cX6_setResistance 34 = .ok (.aload_n 0, 1) := by decide +kernel
theorem dX6_setResistance_35 : decode cX6_setResistance 35 = .ok (.getfield 19, 3) := by decide +kernel
theorem dX6_setResistance_38 : decode cX6_setResistance 38 = .ok (.iload_n 1, 1) := by decide +kernel
theorem dX6_setResistance_39 : decode cX6_setResistance 39 = .ok (.iload_n 2, 1) := by decide +kernel
theorem dX6_setResistance_40 : decode cX6_setResistance 40 = .ok (.iastore, 1) := by decide +kernel
theorem dX6_setResistance_41 : decode cX6_setResistance 41 = .ok (.iload_n 3, 1) := by decide +kernel
theorem dX6_setResistance_42 : decode cX6_setResistance 42 = .ok (.ireturn, 1) := by decide +kernel
theorem dX6_setBypassDiode_0 : decode cX6_setBypassDiode 0 = .ok (.aload_n 0, 1) := by decide +kernel
theorem dX6_setBypassDiode_1 : decode cX6_setBypassDiode 1 = .ok (.iload_n 1, 1) := by decide +kernel
theorem dX6_setBypassDiode_2 : decode cX6_setBypassDiode 2 = .ok (.invokevirtual 70, 3) := by decide +kernel
theorem dX6_setBypassDiode_5 : decode cX6_setBypassDiode 5 = .ok (.ifCond .ne 7, 3) := by decide +kernel
theorem dX6_setBypassDiode_8 : decode cX6_setBypassDiode 8 = .ok (.sipush (-1002), 3) := by decide +kernel
theorem dX6_setBypassDiode_11 : decode cX6_setBypassDiode 11 = .ok (.ireturn, 1) := by decide +kernel
theorem dX6_setBypassDiode_12 : decode cX6_setBypassDiode 12 = .ok (.aload_n 0, 1) := by decide +kernel
theorem dX6_setBypassDiode_13 : decode cX6_setBypassDiode 13 = .ok (.getfield 22, 3) := by decide +kernel
theorem dX6_setBypassDiode_16 : decode cX6_setBypassDiode 16 = .ok (.iload_n 1, 1) := by decide +kernel
theorem dX6_setBypassDiode_17 : decode cX6_setBypassDiode 17 = .ok (.baload, 1) := by decide +kernel
theorem dX6_setBypassDiode_18 : decode cX6_setBypassDiode 18 = .ok (.istore_n 3, 1) := by decide +kernel
theorem dX6_setBypassDiode_19 : decode cX6_setBypassDiode 19 = .ok (.aload_n 0, 1) := by decide +kernel
theorem dX6_setBypassDiode_20 : decode cX6_setBypassDiode 20 = .ok (.getfield 22, 3) := by decide +kernel
theorem dX6_setBypassDiode_23 : decode cX6_setBypassDiode 23 = .ok (.iload_n 1, 1) := by decide +kernel
theorem dX6_setBypassDiode_24 : decode cX6_setBypassDiode 24 = .ok (.iload_n 2, 1) := by decide +kernel
theorem dX6_setBypassDiode_25 : decode cX6_setBypassDiode 25 = .ok (.bastore, 1) := by decide +kernel
theorem dX6_setBypassDiode_26 : decode cX6_setBypassDiode 26 = .ok (.iload_n 3, 1) := by decide +kernel
theorem dX6_setBypassDiode_27 : decode cX6_setBypassDiode 27 = .ok (.iload_n 2, 1) := by decide +kernel
theorem dX6_setBypassDiode_28 : decode cX6_setBypassDiode 28 = .ok (.if_icmp .ne 7, 3) := by decide +kernel
theorem dX6_setBypassDiode_31 : decode cX6_setBypassDiode 31 = .ok (.iconst 0, 1) := by decide +kernel
theorem dX6_setBypassDiode_32 : decode cX6_setBypassDiode 32 = .ok (.goto 4, 3) := by decide +kernel
theorem dX6_setBypassDiode_35 : decode cX6_setBypassDiode 35 = .ok (.iconst 1, 1) := by decide +kernel
theorem dX6_setBypassDiode_36 : decode cX6_setBypassDiode 36 = .ok (.ireturn, 1) := by decide +kernel
theorem dX6_setDiodeDrop_0 : decode cX6_setDiodeDrop 0 = .ok (.iload_n 1, 1) := by decide +kernel
theorem dX6_setDiodeDrop_1 : decode cX6_setDiodeDrop 1 = .ok (.iconst 0, 1) := by decide +kernel
theorem dX6_setDiodeDrop_2 : decode cX6_setDiodeDrop 2 = .ok (.bipush 20, 2) := by decide +kernel
theorem dX6_setDiodeDrop_4 : decode cX6_setDiodeDrop 4 = .ok (.invokestatic 55, 3) := by decide +kernel
theorem dX6_setDiodeDrop_7 : decode cX6_setDiodeDrop 7 = .ok (.ifCond .ne 7, 3) := by decide +kernel
theorem dX6_setDiodeDrop_10 : decode cX6_setDiodeDrop 10 = .ok (.sipush (-1003), 3) := by decide +kernel
theorem dX6_setDiodeDrop_13 : decode cX6_setDiodeDrop 13 = .ok (.ireturn, 1) := by decide +kernel
theorem dX6_setDiodeDrop_14 : decode cX6_setDiodeDrop 14 = .ok (.aload_n 0, 1) := by decide +kernel
theorem dX6_setDiodeDrop_15 : decode cX6_setDiodeDrop 15 = .ok (.getfield 48, 3) := by decide +kernel
theorem dX6_setDiodeDrop_18 : decode cX6_setDiodeDrop 18 = .ok (.istore_n 2, 1) := by decide +kernel
theorem dX6_setDiodeDrop_19 : decode cX6_setDiodeDrop 19 = .ok (.aload_n 0, 1) := by decide +kernel
theorem dX6_setDiodeDrop_20 : decode cX6_setDiodeDrop 20 = .ok (.iload_n 1, 1) := by decide +kernel
theorem dX6_setDiodeDrop_21 : decode cX6_setDiodeDrop 21 = .ok (.putfield 48, 3) := by decide +kernel
theorem dX6_setDiodeDrop_24 : decode cX6_setDiodeDrop 24 = .ok (.iload_n 2, 1) := by decide +kernel
theorem dX6_setDiodeDrop_25 : decode cX6_setDiodeDrop 25 = .ok (.ireturn, 1) := by decide +kernel
theorem dX6_append_0 : decode cX6_append 0 = .ok (.aload_n 0, 1) := by decide +kernel
theorem dX6_append_1 : decode cX6_append 1 = .ok (.getfield 29, 3) := by decide +kernel
theorem dX6_append_4 : decode cX6_append 4 = .ok (.bipush 12, 2) := by decide +kernel
theorem dX6_append_6 : decode cX6_append 6 = .ok (.iload_n 2, 1) := by decide +kernel
theorem dX6_append_7 : decode cX6_append 7 = .ok (.imul, 1) := by decide +kernel
theorem dX6_append_8 : decode cX6_append 8 = .ok (.aload_n 0, 1) := by decide +kernel
theorem dX6_append_9 : decode cX6_append 9 = .ok (.getfield 26, 3) := by decide +kernel
theorem dX6_append_12 : decode cX6_append 12 = .ok (.iload_n 2, 1) := by decide +kernel
theorem dX6_append_13 : decode cX6_append 13 = .ok (.iaload, 1) := by decide +kernel
theorem dX6_append_14 : decode cX6_append 14 = .ok (.iadd, 1) := by decide +kernel
theorem dX6_append_15 : decode cX6_append 15 = .ok (.iload_n 1, 1) := by decide +kernel
theorem dX6_append_16 : decode cX6_append 16 = .ok (.iastore, 1) := by decide +kernel
theorem dX6_append_17 : decode cX6_append 17 = .ok (.aload_n 0, 1) := by decide +kernel
theorem dX6_append_18 : decode cX6_append 18 = .ok (.getfield 26, 3) := by decide +kernel
theorem dX6_append_21 : decode cX6_append 21 = .ok (.iload_n 2, 1) := by decide +kernel
theorem dX6_append_22 : decode cX6_append 22 = .ok (.dup2, 1) := by decide +kernel
theorem dX6_append_23 : decode cX6_append 23 = .ok (.iaload, 1) := by decide +kernel
theorem dX6_append_24 : decode cX6_append 24 = .ok (.iconst 1, 1) := by decide +kernel
theorem dX6_append_25 : decode cX6_append 25 = .ok (.iadd, 1) := by decide +kernel
theorem dX6_append_26 : decode cX6_append 26 = .ok (.iastore, 1) := by decide +kernel
theorem dX6_append_27 : decode cX6_append 27 = .ok (.return_, 1) := by decide +kernel
theorem dX6_placeOf_0 : decode cX6_placeOf 0 = .ok (.iconst 0, 1) := by decide +kernel
theorem dX6_placeOf_1 : decode cX6_placeOf 1 = .ok (.istore_n 2, 1) := by decide +kernel
theorem dX6_placeOf_2 : decode cX6_placeOf 2 = .ok (.iload_n 2, 1) := by decide +kernel
theorem dX6_placeOf_3 : decode cX6_placeOf 3 = .ok (.aload_n 0, 1) := by decide +kernel
theorem dX6_placeOf_4 : decode cX6_placeOf 4 = .ok (.getfield 59, 3) := by decide +kernel
theorem dX6_placeOf_7 : decode cX6_placeOf 7 = .ok (.if_icmp .ge 49, 3) := by decide +kernel
theorem dX6_placeOf_10 : decode cX6_placeOf 10 = .ok (.iconst 0, 1) := by decide +kernel
theorem dX6_placeOf_11 : decode cX6_placeOf 11 = .ok (.istore_n 3, 1) := by decide +kernel
theorem dX6_placeOf_12 : decode cX6_placeOf 12 = .ok (.iload_n 3, 1) := by decide +kernel
theorem dX6_placeOf_13 : decode cX6_placeOf 13 = .ok (.aload_n 0, 1) := by decide +kernel
theorem dX6_placeOf_14 : decode cX6_placeOf 14 = .ok (.getfield 26, 3) := by decide +kernel
theorem dX6_placeOf_17 : decode cX6_placeOf 17 = .ok (.iload_n 2, 1) := by decide +kernel
theorem dX6_placeOf_18 : decode cX6_placeOf 18 = .ok (.iaload, 1) := by decide +kernel
theorem dX6_placeOf_19 : decode cX6_placeOf 19 = .ok (.if_icmp .ge 31, 3) := by decide +kernel
theorem dX6_placeOf_22 : decode cX6_placeOf 22 = .ok (.aload_n 0, 1) := by decide +kernel
theorem dX6_placeOf_23 : decode cX6_placeOf 23 = .ok (.getfield 29, 3) := by decide +kernel
theorem dX6_placeOf_26 : decode cX6_placeOf 26 = .ok (.bipush 12, 2) := by decide +kernel
theorem dX6_placeOf_28 : decode cX6_placeOf 28 = .ok (.iload_n 2, 1) := by decide +kernel
theorem dX6_placeOf_29 : decode cX6_placeOf 29 = .ok (.imul, 1) := by decide +kernel
theorem dX6_placeOf_30 : decode cX6_placeOf 30 = .ok (.iload_n 3, 1) := by decide +kernel
theorem dX6_placeOf_31 : decode cX6_placeOf 31 = .ok (.iadd, 1) := by decide +kernel
theorem dX6_placeOf_32 : decode cX6_placeOf 32 = .ok (.iaload, 1) := by decide +kernel
theorem dX6_placeOf_33 : decode cX6_placeOf 33 = .ok (.iload_n 1, 1) := by decide +kernel
theorem dX6_placeOf_34 : decode cX6_placeOf 34 = .ok (.if_icmp .ne 10, 3) := by decide +kernel
theorem dX6_placeOf_37 : decode cX6_placeOf 37 = .ok (.bipush 12, 2) := by decide +kernel
theorem dX6_placeOf_39 : decode cX6_placeOf 39 = .ok (.iload_n 2, 1) := by decide +kernel
theorem dX6_placeOf_40 : decode cX6_placeOf 40 = .ok (.imul, 1) := by decide +kernel
theorem dX6_placeOf_41 : decode cX6_placeOf 41 = .ok (.iload_n 3, 1) := by decide +kernel
theorem dX6_placeOf_42 : decode cX6_placeOf 42 = .ok (.iadd, 1) := by decide +kernel
theorem dX6_placeOf_43 : decode cX6_placeOf 43 = .ok (.ireturn, 1) := by decide +kernel
theorem dX6_placeOf_44 : decode cX6_placeOf 44 = .ok (.iinc 3 1, 3) := by decide +kernel
theorem dX6_placeOf_47 : decode cX6_placeOf 47 = .ok (.goto (-35), 3) := by decide +kernel
theorem dX6_placeOf_50 : decode cX6_placeOf 50 = .ok (.iinc 2 1, 3) := by decide +kernel
theorem dX6_placeOf_53 : decode cX6_placeOf 53 = .ok (.goto (-51), 3) := by decide +kernel
theorem dX6_placeOf_56 : decode cX6_placeOf 56 = .ok (.sipush (-1005), 3) := by decide +kernel
theorem dX6_placeOf_59 : decode cX6_placeOf 59 = .ok (.ireturn, 1) := by decide +kernel
theorem dX6_remove_0 : decode cX6_remove 0 = .ok (.aload_n 0, 1) := by decide +kernel
theorem dX6_remove_1 : decode cX6_remove 1 = .ok (.iload_n 1, 1) := by decide +kernel
theorem dX6_remove_2 : decode cX6_remove 2 = .ok (.invokevirtual 73, 3) := by decide +kernel
theorem dX6_remove_5 : decode cX6_remove 5 = .ok (.istore_n 2, 1) := by decide +kernel
theorem dX6_remove_6 : decode cX6_remove 6 = .ok (.iload_n 2, 1) := by decide +kernel
theorem dX6_remove_7 : decode cX6_remove 7 = .ok (.bipush 12, 2) := by decide +kernel
theorem dX6_remove_9 : decode cX6_remove 9 = .ok (.idiv, 1) := by decide +kernel
theorem dX6_remove_10 : decode cX6_remove 10 = .ok (.istore_n 3, 1) := by decide +kernel
theorem dX6_remove_11 : decode cX6_remove 11 = .ok (.aload_n 0, 1) := by decide +kernel
theorem dX6_remove_12 : decode cX6_remove 12 = .ok (.getfield 26, 3) := by decide +kernel
theorem dX6_remove_15 : decode cX6_remove 15 = .ok (.iload_n 3, 1) := by decide +kernel
theorem dX6_remove_16 : decode cX6_remove 16 = .ok (.dup2, 1) := by decide +kernel
theorem dX6_remove_17 : decode cX6_remove 17 = .ok (.iaload, 1) := by decide +kernel
theorem dX6_remove_18 : decode cX6_remove 18 = .ok (.iconst 1, 1) := by decide +kernel
theorem dX6_remove_19 : decode cX6_remove 19 = .ok (.isub, 1) := by decide +kernel
theorem dX6_remove_20 : decode cX6_remove 20 = .ok (.iastore, 1) := by decide +kernel
theorem dX6_remove_21 : decode cX6_remove 21 = .ok (.iload_n 2, 1) := by decide +kernel
theorem dX6_remove_22 : decode cX6_remove 22 = .ok (.istore 4, 2) := by decide +kernel
theorem dX6_remove_24 : decode cX6_remove 24 = .ok (.iload 4, 2) := by decide +kernel
theorem dX6_remove_26 : decode cX6_remove 26 = .ok (.bipush 12, 2) := by decide +kernel
theorem dX6_remove_28 : decode cX6_remove 28 = .ok (.iload_n 3, 1) := by decide +kernel
theorem dX6_remove_29 : decode cX6_remove 29 = .ok (.imul, 1) := by decide +kernel
theorem dX6_remove_30 : decode cX6_remove 30 = .ok (.aload_n 0, 1) := by decide +kernel
theorem dX6_remove_31 : decode cX6_remove 31 = .ok (.getfield 26, 3) := by decide +kernel
theorem dX6_remove_34 : decode cX6_remove 34 = .ok (.iload_n 3, 1) := by decide +kernel
theorem dX6_remove_35 : decode cX6_remove 35 = .ok (.iaload, 1) := by decide +kernel
theorem dX6_remove_36 : decode cX6_remove 36 = .ok (.iadd, 1) := by decide +kernel
theorem dX6_remove_37 : decode cX6_remove 37 = .ok (.if_icmp .ge 25, 3) := by decide +kernel
theorem dX6_remove_40 : decode cX6_remove 40 = .ok (.aload_n 0, 1) := by decide +kernel
theorem dX6_remove_41 : decode cX6_remove 41 = .ok (.getfield 29, 3) := by decide +kernel
theorem dX6_remove_44 : decode cX6_remove 44 = .ok (.iload 4, 2) := by decide +kernel
theorem dX6_remove_46 : decode cX6_remove 46 = .ok (.aload_n 0, 1) := by decide +kernel
theorem dX6_remove_47 : decode cX6_remove 47 = .ok (.getfield 29, 3) := by decide +kernel
theorem dX6_remove_50 : decode cX6_remove 50 = .ok (.iload 4, 2) := by decide +kernel
theorem dX6_remove_52 : decode cX6_remove 52 = .ok (.iconst 1, 1) := by decide +kernel
theorem dX6_remove_53 : decode cX6_remove 53 = .ok (.iadd, 1) := by decide +kernel
theorem dX6_remove_54 : decode cX6_remove 54 = .ok (.iaload, 1) := by decide +kernel
theorem dX6_remove_55 : decode cX6_remove 55 = .ok (.iastore, 1) := by decide +kernel
theorem dX6_remove_56 : decode cX6_remove 56 = .ok (.iinc 4 1, 3) := by decide +kernel
theorem dX6_remove_59 : decode cX6_remove 59 = .ok (.goto (-35), 3) := by decide +kernel
theorem dX6_remove_62 : decode cX6_remove 62 = .ok (.return_, 1) := by decide +kernel
theorem dX6_moveModule_0 : decode cX6_moveModule 0 = .ok (.aload_n 0, 1) := by decide +kernel
theorem dX6_moveModule_1 : decode cX6_moveModule 1 = .ok (.iload_n 1, 1) := by decide +kernel
theorem dX6_moveModule_2 : decode cX6_moveModule 2 = .ok (.invokevirtual 70, 3) := by decide +kernel
theorem dX6_moveModule_5 : decode cX6_moveModule 5 = .ok (.ifCond .ne 7, 3) := by decide +kernel
theorem dX6_moveModule_8 : decode cX6_moveModule 8 = .ok (.sipush (-1002), 3) := by decide +kernel
theorem dX6_moveModule_11 : decode cX6_moveModule 11 = .ok (.ireturn, 1) := by decide +kernel
theorem dX6_moveModule_12 : decode cX6_moveModule 12 = .ok (.aload_n 0, 1) := by decide +kernel
theorem dX6_moveModule_13 : decode cX6_moveModule 13 = .ok (.iload_n 2, 1) := by decide +kernel
theorem dX6_moveModule_14 : decode cX6_moveModule 14 = .ok (.invokevirtual 62, 3) := by decide +kernel
theorem dX6_moveModule_17 : decode cX6_moveModule 17 = .ok (.ifCond .ne 7, 3) := by decide +kernel
theorem dX6_moveModule_20 : decode cX6_moveModule 20 = .ok (.sipush (-1001), 3) := by decide +kernel
theorem dX6_moveModule_23 : decode cX6_moveModule 23 = .ok (.ireturn, 1) := by decide +kernel
theorem dX6_moveModule_24 : decode cX6_moveModule 24 = .ok (.aload_n 0, 1) := by decide +kernel
theorem dX6_moveModule_25 : decode cX6_moveModule 25 = .ok (.iload_n 1, 1) := by decide +kernel
theorem dX6_moveModule_26 : decode cX6_moveModule 26 = .ok (.invokevirtual 73, 3) := by decide +kernel
theorem dX6_moveModule_29 : decode cX6_moveModule 29 = .ok (.bipush 12, 2) := by decide +kernel
theorem dX6_moveModule_31 : decode cX6_moveModule 31 = .ok (.idiv, 1) := by decide +kernel
theorem dX6_moveModule_32 : decode cX6_moveModule 32 = .ok (.iload_n 2, 1) := by decide +kernel
theorem dX6_moveModule_33 : decode cX6_moveModule 33 = .ok (.if_icmp .eq 18, 3) := by decide +kernel
theorem dX6_moveModule_36 : decode cX6_moveModule 36 = .ok (.aload_n 0, 1) := by decide +kernel
theorem dX6_moveModule_37 : decode cX6_moveModule 37 = .ok (.getfield 26, 3) := by decide +kernel
theorem dX6_moveModule_40 : decode cX6_moveModule 40 = .ok (.iload_n 2, 1) := by decide +kernel
theorem dX6_moveModule_41 : decode cX6_moveModule 41 = .ok (.iaload, 1) := by decide +kernel
theorem dX6_moveModule_42 : decode cX6_moveModule 42 = .ok (.bipush 12, 2) := by decide +kernel
theorem dX6_moveModule_44 : decode cX6_moveModule 44 = .ok (.if_icmp .ne 7, 3) := by decide +kernel
theorem dX6_moveModule_47 : decode cX6_moveModule 47 = .ok (.sipush (-1004), 3) := by decide +kernel
theorem dX6_moveModule_50 : decode cX6_moveModule 50 = .ok (.ireturn, 1) := by decide +kernel
theorem dX6_moveModule_51 : decode cX6_moveModule 51 = .ok (.aload_n 0, 1) := by decide +kernel
theorem dX6_moveModule_52 : decode cX6_moveModule 52 = .ok (.iload_n 1, 1) := by decide +kernel
theorem dX6_moveModule_53 : decode cX6_moveModule 53 = .ok (.invokevirtual 77, 3) := by decide +kernel
theorem dX6_moveModule_56 : decode cX6_moveModule 56 = .ok (.aload_n 0, 1) := by decide +kernel
theorem dX6_moveModule_57 : decode cX6_moveModule 57 = .ok (.iload_n 1, 1) := by decide +kernel
theorem dX6_moveModule_58 : decode cX6_moveModule 58 = .ok (.iload_n 2, 1) := by decide +kernel
theorem dX6_moveModule_59 : decode cX6_moveModule 59 = .ok (.invokevirtual 66, 3) := by decide +kernel
theorem dX6_moveModule_62 : decode cX6_moveModule 62 = .ok (.aload_n 0, 1) := by decide +kernel
theorem dX6_moveModule_63 : decode cX6_moveModule 63 = .ok (.getfield 26, 3) := by decide +kernel
theorem dX6_moveModule_66 : decode cX6_moveModule 66 = .ok (.iload_n 2, 1) := by decide +kernel
theorem dX6_moveModule_67 : decode cX6_moveModule 67 = .ok (.iaload, 1) := by decide +kernel
theorem dX6_moveModule_68 : decode cX6_moveModule 68 = .ok (.iconst 1, 1) := by decide +kernel
theorem dX6_moveModule_69 : decode cX6_moveModule 69 = .ok (.isub, 1) := by decide +kernel
theorem dX6_moveModule_70 : decode cX6_moveModule 70 = .ok (.ireturn, 1) := by decide +kernel
theorem dX6_exchange_0 : decode cX6_exchange 0 = .ok (.aload_n 0, 1) := by decide +kernel
theorem dX6_exchange_1 : decode cX6_exchange 1 = .ok (.iload_n 1, 1) := by decide +kernel
theorem dX6_exchange_2 : decode cX6_exchange 2 = .ok (.invokevirtual 73, 3) := by decide +kernel
theorem dX6_exchange_5 : decode cX6_exchange 5 = .ok (.istore_n 3, 1) := by decide +kernel
theorem dX6_exchange_6 : decode cX6_exchange 6 = .ok (.aload_n 0, 1) := by decide +kernel
theorem dX6_exchange_7 : decode cX6_exchange 7 = .ok (.iload_n 2, 1) := by decide +kernel
theorem dX6_exchange_8 : decode cX6_exchange 8 = .ok (.invokevirtual 73, 3) := by decide +kernel
theorem dX6_exchange_11 : decode cX6_exchange 11 = .ok (.istore 4, 2) := by decide +kernel
theorem dX6_exchange_13 : decode cX6_exchange 13 = .ok (.aload_n 0, 1) := by decide +kernel
theorem dX6_exchange_14 : decode cX6_exchange 14 = .ok (.getfield 29, 3) := by decide +kernel
theorem dX6_exchange_17 : decode cX6_exchange 17 = .ok (.iload_n 3, 1) := by decide +kernel
theorem dX6_exchange_18 : decode cX6_exchange 18 = .ok (.iload_n 2, 1) := by decide +kernel
theorem dX6_exchange_19 : decode cX6_exchange 19 = .ok (.iastore, 1) := by decide +kernel
theorem dX6_exchange_20 : decode cX6_exchange 20 = .ok (.aload_n 0, 1) := by decide +kernel
theorem dX6_exchange_21 : decode cX6_exchange 21 = .ok (.getfield 29, 3) := by decide +kernel
theorem dX6_exchange_24 : decode cX6_exchange 24 = .ok (.iload 4, 2) := by decide +kernel
theorem dX6_exchange_26 : decode cX6_exchange 26 = .ok (.iload_n 1, 1) := by decide +kernel
theorem dX6_exchange_27 : decode cX6_exchange 27 = .ok (.iastore, 1) := by decide +kernel
theorem dX6_exchange_28 : decode cX6_exchange 28 = .ok (.return_, 1) := by decide +kernel
theorem dX6_swapModules_0 : decode cX6_swapModules 0 = .ok (.aload_n 0, 1) := by decide +kernel
theorem dX6_swapModules_1 : decode cX6_swapModules 1 = .ok (.iload_n 1, 1) := by decide +kernel
theorem dX6_swapModules_2 : decode cX6_swapModules 2 = .ok (.invokevirtual 70, 3) := by decide +kernel
theorem dX6_swapModules_5 : decode cX6_swapModules 5 = .ok (.ifCond .eq 11, 3) := by decide +kernel
theorem dX6_swapModules_8 : decode cX6_swapModules 8 = .ok (.aload_n 0, 1) := by decide +kernel
theorem dX6_swapModules_9 : decode cX6_swapModules 9 = .ok (.iload_n 2, 1) := by decide +kernel
theorem dX6_swapModules_10 : decode cX6_swapModules 10 = .ok (.invokevirtual 70, 3) := by decide +kernel
theorem dX6_swapModules_13 : decode cX6_swapModules 13 = .ok (.ifCond .ne 7, 3) := by decide +kernel
theorem dX6_swapModules_16 : decode cX6_swapModules 16 = .ok (.sipush (-1002), 3) := by decide +kernel
theorem dX6_swapModules_19 : decode cX6_swapModules 19 = .ok (.ireturn, 1) := by decide +kernel
theorem dX6_swapModules_20 : decode cX6_swapModules 20 = .ok (.aload_n 0, 1) := by decide +kernel
theorem dX6_swapModules_21 : decode cX6_swapModules 21 = .ok (.iload_n 1, 1) := by decide +kernel
theorem dX6_swapModules_22 : decode cX6_swapModules 22 = .ok (.iload_n 2, 1) := by decide +kernel
theorem dX6_swapModules_23 : decode cX6_swapModules 23 = .ok (.invokevirtual 81, 3) := by decide +kernel
theorem dX6_swapModules_26 : decode cX6_swapModules 26 = .ok (.aload_n 0, 1) := by decide +kernel
theorem dX6_swapModules_27 : decode cX6_swapModules 27 = .ok (.iload_n 1, 1) := by decide +kernel
theorem dX6_swapModules_28 : decode cX6_swapModules 28 = .ok (.invokevirtual 73, 3) := by decide +kernel
theorem dX6_swapModules_31 : decode cX6_swapModules 31 = .ok (.bipush 12, 2) := by decide +kernel
theorem dX6_swapModules_33 : decode cX6_swapModules 33 = .ok (.idiv, 1) := by decide +kernel
theorem dX6_swapModules_34 : decode cX6_swapModules 34 = .ok (.aload_n 0, 1) := by decide +kernel
theorem dX6_swapModules_35 : decode cX6_swapModules 35 = .ok (.iload_n 2, 1) := by decide +kernel
theorem dX6_swapModules_36 : decode cX6_swapModules 36 = .ok (.invokevirtual 73, 3) := by decide +kernel
theorem dX6_swapModules_39 : decode cX6_swapModules 39 = .ok (.bipush 12, 2) := by decide +kernel
theorem dX6_swapModules_41 : decode cX6_swapModules 41 = .ok (.idiv, 1) := by decide +kernel
theorem dX6_swapModules_42 : decode cX6_swapModules 42 = .ok (.if_icmp .ne 7, 3) := by decide +kernel
theorem dX6_swapModules_45 : decode cX6_swapModules 45 = .ok (.iconst 0, 1) := by decide +kernel
theorem dX6_swapModules_46 : decode cX6_swapModules 46 = .ok (.goto 4, 3) := by decide +kernel
theorem dX6_swapModules_49 : decode cX6_swapModules 49 = .ok (.iconst 1, 1) := by decide +kernel
theorem dX6_swapModules_50 : decode cX6_swapModules 50 = .ok (.ireturn, 1) := by decide +kernel
theorem dX6_stringOf_0 : decode cX6_stringOf 0 = .ok (.aload_n 0, 1) := by decide +kernel
theorem dX6_stringOf_1 : decode cX6_stringOf 1 = .ok (.iload_n 1, 1) := by decide +kernel
theorem dX6_stringOf_2 : decode cX6_stringOf 2 = .ok (.invokevirtual 70, 3) := by decide +kernel
theorem dX6_stringOf_5 : decode cX6_stringOf 5 = .ok (.ifCond .eq 14, 3) := by decide +kernel
theorem dX6_stringOf_8 : decode cX6_stringOf 8 = .ok (.aload_n 0, 1) := by decide +kernel
theorem dX6_stringOf_9 : decode cX6_stringOf 9 = .ok (.iload_n 1, 1) := by decide +kernel
theorem dX6_stringOf_10 : decode cX6_stringOf 10 = .ok (.invokevirtual 73, 3) := by decide +kernel
theorem dX6_stringOf_13 : decode cX6_stringOf 13 = .ok (.bipush 12, 2) := by decide +kernel
theorem dX6_stringOf_15 : decode cX6_stringOf 15 = .ok (.idiv, 1) := by decide +kernel
theorem dX6_stringOf_16 : decode cX6_stringOf 16 = .ok (.goto 6, 3) := by decide +kernel
theorem dX6_stringOf_19 : decode cX6_stringOf 19 = .ok (.sipush (-1002), 3) := by decide +kernel
theorem dX6_stringOf_22 : decode cX6_stringOf 22 = .ok (.ireturn, 1) := by decide +kernel
theorem dX6_moduleAt_0 : decode cX6_moduleAt 0 = .ok (.aload_n 0, 1) := by decide +kernel
theorem dX6_moduleAt_1 : decode cX6_moduleAt 1 = .ok (.iload_n 1, 1) := by decide +kernel
theorem dX6_moduleAt_2 : decode cX6_moduleAt 2 = .ok (.invokevirtual 62, 3) := by decide +kernel
theorem dX6_moduleAt_5 : decode cX6_moduleAt 5 = .ok (.ifCond .ne 7, 3) := by decide +kernel
theorem dX6_moduleAt_8 : decode cX6_moduleAt 8 = .ok (.sipush (-1001), 3) := by decide +kernel
theorem dX6_moduleAt_11 : decode cX6_moduleAt 11 = .ok (.ireturn, 1) := by decide +kernel
theorem dX6_moduleAt_12 : decode cX6_moduleAt 12 = .ok (.iload_n 2, 1) := by decide +kernel
theorem dX6_moduleAt_13 : decode cX6_moduleAt 13 = .ok (.ifCond .ge 7, 3) := by decide +kernel
theorem dX6_moduleAt_16 : decode cX6_moduleAt 16 = .ok (.sipush (-1003), 3) := by decide +kernel
theorem dX6_moduleAt_19 : decode cX6_moduleAt 19 = .ok (.ireturn, 1) := by decide +kernel
theorem dX6_moduleAt_20 : decode cX6_moduleAt 20 = .ok (.iload_n 2, 1) := by decide +kernel
theorem dX6_moduleAt_21 : decode cX6_moduleAt 21 = .ok (.aload_n 0, 1) := by decide +kernel
theorem dX6_moduleAt_22 : decode cX6_moduleAt 22 = .ok (.getfield 26, 3) := by decide +kernel
theorem dX6_moduleAt_25 : decode cX6_moduleAt 25 = .ok (.iload_n 1, 1) := by decide +kernel
theorem dX6_moduleAt_26 : decode cX6_moduleAt 26 = .ok (.iaload, 1) := by decide +kernel
theorem dX6_moduleAt_27 : decode cX6_moduleAt 27 = .ok (.if_icmp .ge 17, 3) := by decide +kernel
theorem dX6_moduleAt_30 : decode cX6_moduleAt 30 = .ok (.aload_n 0, 1) := by decide +kernel
theorem dX6_moduleAt_31 : decode cX6_moduleAt 31 = .ok (.getfield 29, 3) := by decide +kernel
theorem dX6_moduleAt_34 : decode cX6_moduleAt 34 = .ok (.bipush 12, 2) := by decide +kernel
theorem dX6_moduleAt_36 : decode cX6_moduleAt 36 = .ok (.iload_n 1, 1) := by decide +kernel
theorem dX6_moduleAt_37 : decode cX6_moduleAt 37 = .ok (.imul, 1) := by decide +kernel
theorem dX6_moduleAt_38 : decode cX6_moduleAt 38 = .ok (.iload_n 2, 1) := by decide +kernel
theorem dX6_moduleAt_39 : decode cX6_moduleAt 39 = .ok (.iadd, 1) := by decide +kernel
theorem dX6_moduleAt_40 : decode cX6_moduleAt 40 = .ok (.iaload, 1) := by decide +kernel
theorem dX6_moduleAt_41 : decode cX6_moduleAt 41 = .ok (.goto 6, 3) := by decide +kernel
theorem dX6_moduleAt_44 : decode cX6_moduleAt 44 = .ok (.sipush (-1005), 3) := by decide +kernel
theorem dX6_moduleAt_47 : decode cX6_moduleAt 47 = .ok (.ireturn, 1) := by decide +kernel
theorem dX6_photocurrentOf_0 : decode cX6_photocurrentOf 0 = .ok (.aload_n 0, 1) := by decide +kernel
theorem dX6_photocurrentOf_1 : decode cX6_photocurrentOf 1 = .ok (.getfield 16, 3) := by decide +kernel
theorem dX6_photocurrentOf_4 : decode cX6_photocurrentOf 4 = .ok (.iload_n 1, 1) := by decide +kernel
theorem dX6_photocurrentOf_5 : decode cX6_photocurrentOf 5 = .ok (.iaload, 1) := by decide +kernel
theorem dX6_photocurrentOf_6 : decode cX6_photocurrentOf 6 = .ok (.aload_n 0, 1) := by decide +kernel
theorem dX6_photocurrentOf_7 : decode cX6_photocurrentOf 7 = .ok (.getfield 7, 3) := by decide +kernel
theorem dX6_photocurrentOf_10 : decode cX6_photocurrentOf 10 = .ok (.iload_n 1, 1) := by decide +kernel
theorem dX6_photocurrentOf_11 : decode cX6_photocurrentOf 11 = .ok (.iaload, 1) := by decide +kernel
theorem dX6_photocurrentOf_12 : decode cX6_photocurrentOf 12 = .ok (.imul, 1) := by decide +kernel
theorem dX6_photocurrentOf_13 : decode cX6_photocurrentOf 13 = .ok (.sipush 1000, 3) := by decide +kernel
theorem dX6_photocurrentOf_16 : decode cX6_photocurrentOf 16 = .ok (.idiv, 1) := by decide +kernel
theorem dX6_photocurrentOf_17 : decode cX6_photocurrentOf 17 = .ok (.ireturn, 1) := by decide +kernel
theorem dX6_photocurrent_0 : decode cX6_photocurrent 0 = .ok (.aload_n 0, 1) := by decide +kernel
theorem dX6_photocurrent_1 : decode cX6_photocurrent 1 = .ok (.iload_n 1, 1) := by decide +kernel
theorem dX6_photocurrent_2 : decode cX6_photocurrent 2 = .ok (.invokevirtual 70, 3) := by decide +kernel
theorem dX6_photocurrent_5 : decode cX6_photocurrent 5 = .ok (.ifCond .eq 11, 3) := by decide +kernel
theorem dX6_photocurrent_8 : decode cX6_photocurrent 8 = .ok (.aload_n 0, 1) := by decide +kernel
theorem dX6_photocurrent_9 : decode cX6_photocurrent 9 = .ok (.iload_n 1, 1) := by decide +kernel
theorem dX6_photocurrent_10 : decode cX6_photocurrent 10 = .ok (.invokevirtual 84, 3) := by decide +kernel
theorem dX6_photocurrent_13 : decode cX6_photocurrent 13 = .ok (.goto 6, 3) := by decide +kernel
theorem dX6_photocurrent_16 : decode cX6_photocurrent 16 = .ok (.sipush (-1002), 3) := by decide +kernel
theorem dX6_photocurrent_19 : decode cX6_photocurrent 19 = .ok (.ireturn, 1) := by decide +kernel
theorem dX6_litVoltage_0 : decode cX6_litVoltage 0 = .ok (.aload_n 0, 1) := by decide +kernel
theorem dX6_litVoltage_1 : decode cX6_litVoltage 1 = .ok (.getfield 13, 3) := by decide +kernel
theorem dX6_litVoltage_4 : decode cX6_litVoltage 4 = .ok (.iload_n 1, 1) := by decide +kernel
theorem dX6_litVoltage_5 : decode cX6_litVoltage 5 = .ok (.iaload, 1) := by decide +kernel
theorem dX6_litVoltage_6 : decode cX6_litVoltage 6 = .ok (.aload_n 0, 1) := by decide +kernel
theorem dX6_litVoltage_7 : decode cX6_litVoltage 7 = .ok (.getfield 19, 3) := by decide +kernel
theorem dX6_litVoltage_10 : decode cX6_litVoltage 10 = .ok (.iload_n 1, 1) := by decide +kernel
theorem dX6_litVoltage_11 : decode cX6_litVoltage 11 = .ok (.iaload, 1) := by decide +kernel
theorem dX6_litVoltage_12 : decode cX6_litVoltage 12 = .ok (.iload_n 2, 1) := by decide +kernel
theorem dX6_litVoltage_13 : decode cX6_litVoltage 13 = .ok (.imul, 1) := by decide +kernel
theorem dX6_litVoltage_14 : decode cX6_litVoltage 14 = .ok (.sipush 10000, 3) := by decide +kernel
theorem dX6_litVoltage_17 : decode cX6_litVoltage 17 = .ok (.idiv, 1) := by decide +kernel
theorem dX6_litVoltage_18 : decode cX6_litVoltage 18 = .ok (.isub, 1) := by decide +kernel
theorem dX6_litVoltage_19 : decode cX6_litVoltage 19 = .ok (.istore_n 3, 1) := by decide +kernel
theorem dX6_litVoltage_20 : decode cX6_litVoltage 20 = .ok (.iload_n 3, 1) := by decide +kernel
theorem dX6_litVoltage_21 : decode cX6_litVoltage 21 = .ok (.ifCond .ge 7, 3) := by decide +kernel
theorem dX6_litVoltage_24 : decode cX6_litVoltage 24 = .ok (.iconst 0, 1) := by decide +kernel
theorem dX6_litVoltage_25 : decode cX6_litVoltage 25 = .ok (.goto 4, 3) := by decide +kernel
theorem dX6_litVoltage_28 : decode cX6_litVoltage 28 = .ok (.iload_n 3, 1) := by decide +kernel
theorem dX6_litVoltage_29 : decode cX6_litVoltage 29 = .ok (.ireturn, 1) := by decide +kernel
theorem dX6_voltageOf_0 : decode cX6_voltageOf 0 = .ok (.iload_n 2, 1) := by decide +kernel
theorem dX6_voltageOf_1 : decode cX6_voltageOf 1 = .ok (.aload_n 0, 1) := by decide +kernel
theorem dX6_voltageOf_2 : decode cX6_voltageOf 2 = .ok (.iload_n 1, 1) := by decide +kernel
theorem dX6_voltageOf_3 : decode cX6_voltageOf 3 = .ok (.invokevirtual 84, 3) := by decide +kernel
theorem dX6_voltageOf_6 : decode cX6_voltageOf 6 = .ok (.if_icmp .le 11, 3) := by decide +kernel
theorem dX6_voltageOf_9 : decode cX6_voltageOf 9 = .ok (.aload_n 0, 1) := by decide +kernel
theorem dX6_voltageOf_10 : decode cX6_voltageOf 10 = .ok (.getfield 48, 3) := by decide +kernel
theorem dX6_voltageOf_13 : decode cX6_voltageOf 13 = .ok (.ineg, 1) := by decide +kernel
theorem dX6_voltageOf_14 : decode cX6_voltageOf 14 = .ok (.goto 9, 3) := by decide +kernel
theorem dX6_voltageOf_17 : decode cX6_voltageOf 17 = .ok (.aload_n 0, 1) := by decide +kernel
theorem dX6_voltageOf_18 : decode cX6_voltageOf 18 = .ok (.iload_n 1, 1) := by decide +kernel
theorem dX6_voltageOf_19 : decode cX6_voltageOf 19 = .ok (.iload_n 2, 1) := by decide +kernel
theorem dX6_voltageOf_20 : decode cX6_voltageOf 20 = .ok (.invokevirtual 87, 3) := by decide +kernel
theorem dX6_voltageOf_23 : decode cX6_voltageOf 23 = .ok (.ireturn, 1) := by decide +kernel
theorem dX6_moduleVoltage_0 : decode cX6_moduleVoltage 0 = .ok (.aload_n 0, 1) := by decide +kernel
theorem dX6_moduleVoltage_1 : decode cX6_moduleVoltage 1 = .ok (.iload_n 1, 1) := by decide +kernel
theorem dX6_moduleVoltage_2 : decode cX6_moduleVoltage 2 = .ok (.invokevirtual 70, 3) := by decide +kernel
theorem dX6_moduleVoltage_5 : decode cX6_moduleVoltage 5 = .ok (.ifCond .ne 7, 3) := by decide +kernel
theorem dX6_moduleVoltage_8 : decode cX6_moduleVoltage 8 = .ok (.sipush (-1002), 3) := by decide +kernel
theorem dX6_moduleVoltage_11 : decode cX6_moduleVoltage 11 = .ok (.ireturn, 1) := by decide +kernel
theorem dX6_moduleVoltage_12 : decode cX6_moduleVoltage 12 = .ok (.iload_n 2, 1) := by decide +kernel
theorem dX6_moduleVoltage_13 : decode cX6_moduleVoltage 13 = .ok (.iconst 0, 1) := by decide +kernel
theorem dX6_moduleVoltage_14 : decode cX6_moduleVoltage 14 = .ok (.sipush 1200, 3) := by decide +kernel
theorem dX6_moduleVoltage_17 : decode cX6_moduleVoltage 17 = .ok (.invokestatic 55, 3) := by decide +kernel
theorem dX6_moduleVoltage_20 : decode cX6_moduleVoltage 20 = .ok (.ifCond .ne 7, 3) := by decide +kernel
theorem dX6_moduleVoltage_23 : decode cX6_moduleVoltage 23 = .ok (.sipush (-1003), 3) := by decide +kernel
theorem dX6_moduleVoltage_26 : decode cX6_moduleVoltage 26 = .ok (.ireturn, 1) := by decide +kernel
theorem dX6_moduleVoltage_27 : decode cX6_moduleVoltage 27 = .ok (.iload_n 2, 1) := by decide +kernel
theorem dX6_moduleVoltage_28 : decode cX6_moduleVoltage 28 = .ok (.aload_n 0, 1) := by decide +kernel
theorem dX6_moduleVoltage_29 : decode cX6_moduleVoltage 29 = .ok (.iload_n 1, 1) := by decide +kernel
theorem dX6_moduleVoltage_30 : decode cX6_moduleVoltage 30 = .ok (.invokevirtual 84, 3) := by decide +kernel
theorem dX6_moduleVoltage_33 : decode cX6_moduleVoltage 33 = .ok (.if_icmp .le 16, 3) := by decide +kernel
theorem dX6_moduleVoltage_36 : decode cX6_moduleVoltage 36 = .ok (.aload_n 0, 1) := by decide +kernel
theorem dX6_moduleVoltage_37 : decode cX6_moduleVoltage 37 = .ok (.getfield 22, 3) := by decide +kernel
theorem dX6_moduleVoltage_40 : decode cX6_moduleVoltage 40 = .ok (.iload_n 1, 1) := by decide +kernel
theorem dX6_moduleVoltage_41 : decode cX6_moduleVoltage 41 = .ok (.baload, 1) := by decide +kernel
theorem dX6_moduleVoltage_42 : decode cX6_moduleVoltage 42 = .ok (.ifCond .ne 7, 3) := by decide +kernel
theorem dX6_moduleVoltage_45 : decode cX6_moduleVoltage 45 = .ok (.sipush (-1005), 3) := by decide +kernel
theorem dX6_moduleVoltage_48 : decode cX6_moduleVoltage 48 = .ok (.ireturn, 1) := by decide +kernel
theorem dX6_moduleVoltage_49 : decode cX6_moduleVoltage 49 = .ok (.aload_n 0, 1) := by decide +kernel
theorem dX6_moduleVoltage_50 : decode cX6_moduleVoltage 50 = .ok (.iload_n 1, 1) := by decide +kernel
theorem dX6_moduleVoltage_51 : decode cX6_moduleVoltage 51 = .ok (.iload_n 2, 1) := by decide +kernel
theorem dX6_moduleVoltage_52 : decode cX6_moduleVoltage 52 = .ok (.invokevirtual 91, 3) := by decide +kernel
theorem dX6_moduleVoltage_55 : decode cX6_moduleVoltage 55 = .ok (.ireturn, 1) := by decide +kernel
theorem dX6_peakPowerOf_0 : decode cX6_peakPowerOf 0 = .ok (.lconst 0, 1) := by decide +kernel
theorem dX6_peakPowerOf_1 : decode cX6_peakPowerOf 1 = .ok (.lstore_n 2, 1) := by decide +kernel
theorem dX6_peakPowerOf_2 : decode cX6_peakPowerOf 2 = .ok (.iconst 0, 1) := by decide +kernel
theorem dX6_peakPowerOf_3 : decode cX6_peakPowerOf 3 = .ok (.istore 4, 2) := by decide +kernel
theorem dX6_peakPowerOf_5 : decode cX6_peakPowerOf 5 = .ok (.iload 4, 2) := by decide +kernel
theorem dX6_peakPowerOf_7 : decode cX6_peakPowerOf 7 = .ok (.aload_n 0, 1) := by decide +kernel
theorem dX6_peakPowerOf_8 : decode cX6_peakPowerOf 8 = .ok (.iload_n 1, 1) := by decide +kernel
theorem dX6_peakPowerOf_9 : decode cX6_peakPowerOf 9 = .ok (.invokevirtual 84, 3) := by decide +kernel
theorem dX6_peakPowerOf_12 : decode cX6_peakPowerOf 12 = .ok (.if_icmp .gt 37, 3) := by decide +kernel
theorem dX6_peakPowerOf_15 : decode cX6_peakPowerOf 15 = .ok (.iload 4, 2) := by decide +kernel
theorem dX6_peakPowerOf_17 : decode cX6_peakPowerOf 17 = .ok (.i2l, 1) := by decide +kernel
theorem dX6_peakPowerOf_18 : decode cX6_peakPowerOf 18 = .ok (.aload_n 0, 1) := by decide +kernel
theorem dX6_peakPowerOf_19 : decode cX6_peakPowerOf 19 = .ok (.iload_n 1, 1) := by decide +kernel
theorem dX6_peakPowerOf_20 : decode cX6_peakPowerOf 20 = .ok (.iload 4, 2) := by decide +kernel
theorem dX6_peakPowerOf_22 : decode cX6_peakPowerOf 22 = .ok (.invokevirtual 87, 3) := by decide +kernel
theorem dX6_peakPowerOf_25 : decode cX6_peakPowerOf 25 = .ok (.i2l, 1) := by decide +kernel
theorem dX6_peakPowerOf_26 : decode cX6_peakPowerOf 26 = .ok (.lmul, 1) := by decide +kernel
theorem dX6_peakPowerOf_27 : decode cX6_peakPowerOf 27 = .ok (.lstore 5, 2) := by decide +kernel
theorem dX6_peakPowerOf_29 : decode cX6_peakPowerOf 29 = .ok (.lload 5, 2) := by decide +kernel
theorem dX6_peakPowerOf_31 : decode cX6_peakPowerOf 31 = .ok (.lload_n 2, 1) := by decide +kernel
theorem dX6_peakPowerOf_32 : decode cX6_peakPowerOf 32 = .ok (.lcmp, 1) := by decide +kernel
theorem dX6_peakPowerOf_33 : decode cX6_peakPowerOf 33 = .ok (.ifCond .le 8, 3) := by decide +kernel
theorem dX6_peakPowerOf_36 : decode cX6_peakPowerOf 36 = .ok (.lload 5, 2) := by decide +kernel
theorem dX6_peakPowerOf_38 : decode cX6_peakPowerOf 38 = .ok (.goto 4, 3) := by decide +kernel
theorem dX6_peakPowerOf_41 : decode cX6_peakPowerOf 41 = .ok (.lload_n 2, 1) := by decide +kernel
theorem dX6_peakPowerOf_42 : decode cX6_peakPowerOf 42 = .ok (.lstore_n 2, 1) := by decide +kernel
theorem dX6_peakPowerOf_43 : decode cX6_peakPowerOf 43 = .ok (.iinc 4 1, 3) := by decide +kernel
theorem dX6_peakPowerOf_46 : decode cX6_peakPowerOf 46 = .ok (.goto (-41), 3) := by decide +kernel
theorem dX6_peakPowerOf_49 : decode cX6_peakPowerOf 49 = .ok (.lload_n 2, 1) := by decide +kernel
theorem dX6_peakPowerOf_50 : decode cX6_peakPowerOf 50 = .ok (.lreturn, 1) := by decide +kernel
theorem dX6_modulePeakPower_0 : decode cX6_modulePeakPower 0 = .ok (.aload_n 0, 1) := by decide +kernel
theorem dX6_modulePeakPower_1 : decode cX6_modulePeakPower 1 = .ok (.iload_n 1, 1) := by decide +kernel
theorem dX6_modulePeakPower_2 : decode cX6_modulePeakPower 2 = .ok (.invokevirtual 70, 3) := by decide +kernel
theorem dX6_modulePeakPower_5 : decode cX6_modulePeakPower 5 = .ok (.ifCond .eq 11, 3) := by decide +kernel
theorem dX6_modulePeakPower_8 : decode cX6_modulePeakPower 8 = .ok (.aload_n 0, 1) := by decide +kernel
theorem dX6_modulePeakPower_9 : decode cX6_modulePeakPower 9 = .ok (.iload_n 1, 1) := by decide +kernel
theorem dX6_modulePeakPower_10 : decode cX6_modulePeakPower 10 = .ok (.invokevirtual 94, 3) := by decide +kernel
theorem dX6_modulePeakPower_13 : decode cX6_modulePeakPower 13 = .ok (.goto 6, 3) := by decide +kernel
theorem dX6_modulePeakPower_16 : decode cX6_modulePeakPower 16 = .ok (.ldc2_w 98, 3) := by decide +kernel
theorem dX6_modulePeakPower_19 : decode cX6_modulePeakPower 19 = .ok (.lreturn, 1) := by decide +kernel
theorem dX6_limitOf_0 : decode cX6_limitOf 0 = .ok (.iconst 0, 1) := by decide +kernel
theorem dX6_limitOf_1 : decode cX6_limitOf 1 = .ok (.istore_n 2, 1) := by decide +kernel
theorem dX6_limitOf_2 : decode cX6_limitOf 2 = .ok (.iconst 0, 1) := by decide +kernel
theorem dX6_limitOf_3 : decode cX6_limitOf 3 = .ok (.istore_n 3, 1) := by decide +kernel
theorem dX6_limitOf_4 : decode cX6_limitOf 4 = .ok (.iload_n 3, 1) := by decide +kernel
theorem dX6_limitOf_5 : decode cX6_limitOf 5 = .ok (.aload_n 0, 1) := by decide +kernel
theorem dX6_limitOf_6 : decode cX6_limitOf 6 = .ok (.getfield 26, 3) := by decide +kernel
theorem dX6_limitOf_9 : decode cX6_limitOf 9 = .ok (.iload_n 1, 1) := by decide +kernel
theorem dX6_limitOf_10 : decode cX6_limitOf 10 = .ok (.iaload, 1) := by decide +kernel
theorem dX6_limitOf_11 : decode cX6_limitOf 11 = .ok (.if_icmp .ge 39, 3) := by decide +kernel
theorem dX6_limitOf_14 : decode cX6_limitOf 14 = .ok (.aload_n 0, 1) := by decide +kernel
theorem dX6_limitOf_15 : decode cX6_limitOf 15 = .ok (.aload_n 0, 1) := by decide +kernel
theorem dX6_limitOf_16 : decode cX6_limitOf 16 = .ok (.getfield 29, 3) := by decide +kernel
theorem dX6_limitOf_19 : decode cX6_limitOf 19 = .ok (.bipush 12, 2) := by decide +kernel
theorem dX6_limitOf_21 : decode cX6_limitOf 21 = .ok (.iload_n 1, 1) := by decide +kernel
theorem dX6_limitOf_22 : decode cX6_limitOf 22 = .ok (.imul, 1) := by decide +kernel
theorem dX6_limitOf_23 : decode cX6_limitOf 23 = .ok (.iload_n 3, 1) := by decide +kernel
theorem dX6_limitOf_24 : decode cX6_limitOf 24 = .ok (.iadd, 1) := by decide +kernel
theorem dX6_limitOf_25 : decode cX6_limitOf 25 = .ok (.iaload, 1) := by decide +kernel
theorem dX6_limitOf_26 : decode cX6_limitOf 26 = .ok (.invokevirtual 84, 3) := by decide +kernel
theorem dX6_limitOf_29 : decode cX6_limitOf 29 = .ok (.istore 4, 2) := by decide +kernel
theorem dX6_limitOf_31 : decode cX6_limitOf 31 = .ok (.iload 4, 2) := by decide +kernel
theorem dX6_limitOf_33 : decode cX6_limitOf 33 = .ok (.iload_n 2, 1) := by decide +kernel
theorem dX6_limitOf_34 : decode cX6_limitOf 34 = .ok (.if_icmp .le 8, 3) := by decide +kernel
theorem dX6_limitOf_37 : decode cX6_limitOf 37 = .ok (.iload 4, 2) := by decide +kernel
theorem dX6_limitOf_39 : decode cX6_limitOf 39 = .ok (.goto 4, 3) := by decide +kernel
theorem dX6_limitOf_42 : decode cX6_limitOf 42 = .ok (.iload_n 2, 1) := by decide +kernel
theorem dX6_limitOf_43 : decode cX6_limitOf 43 = .ok (.istore_n 2, 1) := by decide +kernel
theorem dX6_limitOf_44 : decode cX6_limitOf 44 = .ok (.iinc 3 1, 3) := by decide +kernel
theorem dX6_limitOf_47 : decode cX6_limitOf 47 = .ok (.goto (-43), 3) := by decide +kernel
theorem dX6_limitOf_50 : decode cX6_limitOf 50 = .ok (.iconst 0, 1) := by decide +kernel
theorem dX6_limitOf_51 : decode cX6_limitOf 51 = .ok (.istore_n 3, 1) := by decide +kernel
theorem dX6_limitOf_52 : decode cX6_limitOf 52 = .ok (.iload_n 3, 1) := by decide +kernel
theorem dX6_limitOf_53 : decode cX6_limitOf 53 = .ok (.aload_n 0, 1) := by decide +kernel
theorem dX6_limitOf_54 : decode cX6_limitOf 54 = .ok (.getfield 26, 3) := by decide +kernel
theorem dX6_limitOf_57 : decode cX6_limitOf 57 = .ok (.iload_n 1, 1) := by decide +kernel
theorem dX6_limitOf_58 : decode cX6_limitOf 58 = .ok (.iaload, 1) := by decide +kernel
theorem dX6_limitOf_59 : decode cX6_limitOf 59 = .ok (.if_icmp .ge 53, 3) := by decide +kernel
theorem dX6_limitOf_62 : decode cX6_limitOf 62 = .ok (.aload_n 0, 1) := by decide +kernel
theorem dX6_limitOf_63 : decode cX6_limitOf 63 = .ok (.getfield 29, 3) := by decide +kernel
theorem dX6_limitOf_66 : decode cX6_limitOf 66 = .ok (.bipush 12, 2) := by decide +kernel
theorem dX6_limitOf_68 : decode cX6_limitOf 68 = .ok (.iload_n 1, 1) := by decide +kernel
theorem dX6_limitOf_69 : decode cX6_limitOf 69 = .ok (.imul, 1) := by decide +kernel
theorem dX6_limitOf_70 : decode cX6_limitOf 70 = .ok (.iload_n 3, 1) := by decide +kernel
theorem dX6_limitOf_71 : decode cX6_limitOf 71 = .ok (.iadd, 1) := by decide +kernel
theorem dX6_limitOf_72 : decode cX6_limitOf 72 = .ok (.iaload, 1) := by decide +kernel
theorem dX6_limitOf_73 : decode cX6_limitOf 73 = .ok (.istore 4, 2) := by decide +kernel
theorem dX6_limitOf_75 : decode cX6_limitOf 75 = .ok (.aload_n 0, 1) := by decide +kernel
theorem dX6_limitOf_76 : decode cX6_limitOf 76 = .ok (.iload 4, 2) := by decide +kernel
theorem dX6_limitOf_78 : decode cX6_limitOf 78 = .ok (.invokevirtual 84, 3) := by decide +kernel
theorem dX6_limitOf_81 : decode cX6_limitOf 81 = .ok (.istore 5, 2) := by decide +kernel
theorem dX6_limitOf_83 : decode cX6_limitOf 83 = .ok (.aload_n 0, 1) := by decide +kernel
theorem dX6_limitOf_84 : decode cX6_limitOf 84 = .ok (.getfield 22, 3) := by decide +kernel
theorem dX6_limitOf_87 : decode cX6_limitOf 87 = .ok (.iload 4, 2) := by decide +kernel
theorem dX6_limitOf_89 : decode cX6_limitOf 89 = .ok (.baload, 1) := by decide +kernel
theorem dX6_limitOf_90 : decode cX6_limitOf 90 = .ok (.ifCond .ne 14, 3) := by decide +kernel
theorem dX6_limitOf_93 : decode cX6_limitOf 93 = .ok (.iload 5, 2) := by decide +kernel
theorem dX6_limitOf_95 : decode cX6_limitOf 95 = .ok (.iload_n 2, 1) := by decide +kernel
theorem dX6_limitOf_96 : decode cX6_limitOf 96 = .ok (.if_icmp .ge 8, 3) := by decide +kernel
theorem dX6_limitOf_99 : decode cX6_limitOf 99 = .ok (.iload 5, 2) := by decide +kernel
theorem dX6_limitOf_101 : decode cX6_limitOf 101 = .ok (.goto 4, 3) := by decide +kernel
theorem dX6_limitOf_104 : decode cX6_limitOf 104 = .ok (.iload_n 2, 1) := by decide +kernel
theorem dX6_limitOf_105 : decode cX6_limitOf 105 = .ok (.istore_n 2, 1) := by decide +kernel
theorem dX6_limitOf_106 : decode cX6_limitOf 106 = .ok (.iinc 3 1, 3) := by decide +kernel
theorem dX6_limitOf_109 : decode cX6_limitOf 109 = .ok (.goto (-57), 3) := by decide +kernel
theorem dX6_limitOf_112 : decode cX6_limitOf 112 = .ok (.iload_n 2, 1) := by decide +kernel
theorem dX6_limitOf_113 : decode cX6_limitOf 113 = .ok (.ireturn, 1) := by decide +kernel
theorem dX6_voltageAt_0 : decode cX6_voltageAt 0 = .ok (.iconst 0, 1) := by decide +kernel
theorem dX6_voltageAt_1 : decode cX6_voltageAt 1 = .ok (.istore_n 3, 1) := by decide +kernel
theorem dX6_voltageAt_2 : decode cX6_voltageAt 2 = .ok (.iconst 0, 1) := by decide +kernel
theorem dX6_voltageAt_3 : decode cX6_voltageAt 3 = .ok (.istore 4, 2) := by decide +kernel
theorem dX6_voltageAt_5 : decode cX6_voltageAt 5 = .ok (.iload 4, 2) := by decide +kernel
theorem dX6_voltageAt_7 : decode cX6_voltageAt 7 = .ok (.aload_n 0, 1) := by decide +kernel
theorem dX6_voltageAt_8 : decode cX6_voltageAt 8 = .ok (.getfield 26, 3) := by decide +kernel
theorem dX6_voltageAt_11 : decode cX6_voltageAt 11 = .ok (.iload_n 1, 1) := by decide +kernel
theorem dX6_voltageAt_12 : decode cX6_voltageAt 12 = .ok (.iaload, 1) := by decide +kernel
theorem dX6_voltageAt_13 : decode cX6_voltageAt 13 = .ok (.if_icmp .ge 29, 3) := by decide +kernel
theorem dX6_voltageAt_16 : decode cX6_voltageAt 16 = .ok (.iload_n 3, 1) := by decide +kernel
theorem dX6_voltageAt_17 : decode cX6_voltageAt 17 = .ok (.aload_n 0, 1) := by decide +kernel
theorem dX6_voltageAt_18 : decode cX6_voltageAt 18 = .ok (.aload_n 0, 1) := by decide +kernel
theorem dX6_voltageAt_19 : decode cX6_voltageAt 19 = .ok (.getfield 29, 3) := by decide +kernel
theorem dX6_voltageAt_22 : decode cX6_voltageAt 22 = .ok (.bipush 12, 2) := by decide +kernel
theorem dX6_voltageAt_24 : decode cX6_voltageAt 24 = .ok (.iload_n 1, 1) := by decide +kernel
theorem dX6_voltageAt_25 : decode cX6_voltageAt 25 = .ok (.imul, 1) := by decide +kernel
theorem dX6_voltageAt_26 : decode cX6_voltageAt 26 = .ok (.iload 4, 2) := by decide +kernel
theorem dX6_voltageAt_28 : decode cX6_voltageAt 28 = .ok (.iadd, 1) := by decide +kernel
theorem dX6_voltageAt_29 : decode cX6_voltageAt 29 = .ok (.iaload, 1) := by decide +kernel
theorem dX6_voltageAt_30 : decode cX6_voltageAt 30 = .ok (.iload_n 2, 1) := by decide +kernel
theorem dX6_voltageAt_31 : decode cX6_voltageAt 31 = .ok (.invokevirtual 91, 3) := by decide +kernel
theorem dX6_voltageAt_34 : decode cX6_voltageAt 34 = .ok (.iadd, 1) := by decide +kernel
theorem dX6_voltageAt_35 : decode cX6_voltageAt 35 = .ok (.istore_n 3, 1) := by decide +kernel
theorem dX6_voltageAt_36 : decode cX6_voltageAt 36 = .ok (.iinc 4 1, 3) := by decide +kernel
theorem dX6_voltageAt_39 : decode cX6_voltageAt 39 = .ok (.goto (-34), 3) := by decide +kernel
theorem dX6_voltageAt_42 : decode cX6_voltageAt 42 = .ok (.iload_n 3, 1) := by decide +kernel
theorem dX6_voltageAt_43 : decode cX6_voltageAt 43 = .ok (.ireturn, 1) := by decide +kernel
theorem dX6_powerAt_0 : decode cX6_powerAt 0 = .ok (.iload_n 2, 1) := by decide +kernel
theorem dX6_powerAt_1 : decode cX6_powerAt 1 = .ok (.i2l, 1) := by decide +kernel
theorem dX6_powerAt_2 : decode cX6_powerAt 2 = .ok (.aload_n 0, 1) := by decide +kernel
theorem dX6_powerAt_3 : decode cX6_powerAt 3 = .ok (.iload_n 1, 1) := by decide +kernel
theorem dX6_powerAt_4 : decode cX6_powerAt 4 = .ok (.iload_n 2, 1) := by decide +kernel
theorem dX6_powerAt_5 : decode cX6_powerAt 5 = .ok (.invokevirtual 100, 3) := by decide +kernel
theorem dX6_powerAt_8 : decode cX6_powerAt 8 = .ok (.i2l, 1) := by decide +kernel
theorem dX6_powerAt_9 : decode cX6_powerAt 9 = .ok (.lmul, 1) := by decide +kernel
theorem dX6_powerAt_10 : decode cX6_powerAt 10 = .ok (.lreturn, 1) := by decide +kernel
theorem dX6_currentLimit_0 : decode cX6_currentLimit 0 = .ok (.aload_n 0, 1) := by decide +kernel
theorem dX6_currentLimit_1 : decode cX6_currentLimit 1 = .ok (.iload_n 1, 1) := by decide +kernel
theorem dX6_currentLimit_2 : decode cX6_currentLimit 2 = .ok (.invokevirtual 62, 3) := by decide +kernel
theorem dX6_currentLimit_5 : decode cX6_currentLimit 5 = .ok (.ifCond .eq 11, 3) := by decide +kernel
theorem dX6_currentLimit_8 : decode cX6_currentLimit 8 = .ok (.aload_n 0, 1) := by decide +kernel
theorem dX6_currentLimit_9 : decode cX6_currentLimit 9 = .ok (.iload_n 1, 1) := by decide +kernel
theorem dX6_currentLimit_10 : decode cX6_currentLimit 10 = .ok (.invokevirtual 103, 3) := by decide +kernel
theorem dX6_currentLimit_13 : decode cX6_currentLimit 13 = .ok (.goto 6, 3) := by decide +kernel
theorem dX6_currentLimit_16 : decode cX6_currentLimit 16 = .ok (.sipush (-1001), 3) := by decide +kernel
theorem dX6_currentLimit_19 : decode cX6_currentLimit 19 = .ok (.ireturn, 1) := by decide +kernel
theorem dX6_stringVoltage_0 : decode cX6_stringVoltage 0 = .ok (.aload_n 0, 1) := by decide +kernel
theorem dX6_stringVoltage_1 : decode cX6_stringVoltage 1 = .ok (.iload_n 1, 1) := by decide +kernel
theorem dX6_stringVoltage_2 : decode cX6_stringVoltage 2 = .ok (.invokevirtual 62, 3) := by decide +kernel
theorem dX6_stringVoltage_5 : decode cX6_stringVoltage 5 = .ok (.ifCond .ne 7, 3) := by decide +kernel
theorem dX6_stringVoltage_8 : decode cX6_stringVoltage 8 = .ok (.sipush (-1001), 3) := by decide +kernel
theorem dX6_stringVoltage_11 : decode cX6_stringVoltage 11 = .ok (.ireturn, 1) := by decide +kernel
theorem dX6_stringVoltage_12 : decode cX6_stringVoltage 12 = .ok (.iload_n 2, 1) := by decide +kernel
theorem dX6_stringVoltage_13 : decode cX6_stringVoltage 13 = .ok (.iconst 0, 1) := by decide +kernel
theorem dX6_stringVoltage_14 : decode cX6_stringVoltage 14 = .ok (.aload_n 0, 1) := by decide +kernel
theorem dX6_stringVoltage_15 : decode cX6_stringVoltage 15 = .ok (.iload_n 1, 1) := by decide +kernel
theorem dX6_stringVoltage_16 : decode cX6_stringVoltage 16 = .ok (.invokevirtual 103, 3) := by decide +kernel
theorem dX6_stringVoltage_19 : decode cX6_stringVoltage 19 = .ok (.invokestatic 55, 3) := by decide +kernel
theorem dX6_stringVoltage_22 : decode cX6_stringVoltage 22 = .ok (.ifCond .eq 12, 3) := by decide +kernel
theorem dX6_stringVoltage_25 : decode cX6_stringVoltage 25 = .ok (.aload_n 0, 1) := by decide +kernel
theorem dX6_stringVoltage_26 : decode cX6_stringVoltage 26 = .ok (.iload_n 1, 1) := by decide +kernel
theorem dX6_stringVoltage_27 : decode cX6_stringVoltage 27 = .ok (.iload_n 2, 1) := by decide +kernel
theorem dX6_stringVoltage_28 : decode cX6_stringVoltage 28 = .ok (.invokevirtual 100, 3) := by decide +kernel
theorem dX6_stringVoltage_31 : decode cX6_stringVoltage 31 = .ok (.goto 6, 3) := by decide +kernel
theorem dX6_stringVoltage_34 : decode cX6_stringVoltage 34 = .ok (.sipush (-1003), 3) := by decide +kernel
theorem dX6_stringVoltage_37 : decode cX6_stringVoltage 37 = .ok (.ireturn, 1) := by decide +kernel
theorem dX6_stringPower_0 : decode cX6_stringPower 0 = .ok (.aload_n 0, 1) := by decide +kernel
theorem dX6_stringPower_1 : decode cX6_stringPower 1 = .ok (.iload_n 1, 1) := by decide +kernel
theorem dX6_stringPower_2 : decode cX6_stringPower 2 = .ok (.invokevirtual 62, 3) := by decide +kernel
theorem dX6_stringPower_5 : decode cX6_stringPower 5 = .ok (.ifCond .eq 25, 3) := by decide +kernel
theorem dX6_stringPower_8 : decode cX6_stringPower 8 = .ok (.iload_n 2, 1) := by decide +kernel
theorem dX6_stringPower_9 : decode cX6_stringPower 9 = .ok (.iconst 0, 1) := by decide +kernel
theorem dX6_stringPower_10 : decode cX6_stringPower 10 = .ok (.aload_n 0, 1) := by decide +kernel
theorem dX6_stringPower_11 : decode cX6_stringPower 11 = .ok (.iload_n 1, 1) := by decide +kernel
theorem dX6_stringPower_12 : decode cX6_stringPower 12 = .ok (.invokevirtual 103, 3) := by decide +kernel
theorem dX6_stringPower_15 : decode cX6_stringPower 15 = .ok (.invokestatic 55, 3) := by decide +kernel
theorem dX6_stringPower_18 : decode cX6_stringPower 18 = .ok (.ifCond .eq 12, 3) := by decide +kernel
theorem dX6_stringPower_21 : decode cX6_stringPower 21 = .ok (.aload_n 0, 1) := by decide +kernel
theorem dX6_stringPower_22 : decode cX6_stringPower 22 = .ok (.iload_n 1, 1) := by decide +kernel
theorem dX6_stringPower_23 : decode cX6_stringPower 23 = .ok (.iload_n 2, 1) := by decide +kernel
theorem dX6_stringPower_24 : decode cX6_stringPower 24 = .ok (.invokevirtual 106, 3) := by decide +kernel
theorem dX6_stringPower_27 : decode cX6_stringPower 27 = .ok (.goto 6, 3) := by decide +kernel
theorem dX6_stringPower_30 : decode cX6_stringPower 30 = .ok (.ldc2_w 98, 3) := by decide +kernel
theorem dX6_stringPower_33 : decode cX6_stringPower 33 = .ok (.lreturn, 1) := by decide +kernel
theorem dX6_bypassedModules_0 : decode cX6_bypassedModules 0 = .ok (.aload_n 0, 1) := by decide +kernel
theorem dX6_bypassedModules_1 : decode cX6_bypassedModules 1 = .ok (.iload_n 1, 1) := by decide +kernel
theorem dX6_bypassedModules_2 : decode cX6_bypassedModules 2 = .ok (.invokevirtual 62, 3) := by decide +kernel
theorem dX6_bypassedModules_5 : decode cX6_bypassedModules 5 = .ok (.ifCond .ne 7, 3) := by decide +kernel
theorem dX6_bypassedModules_8 : decode cX6_bypassedModules 8 = .ok (.sipush (-1001), 3) := by decide +kernel
theorem dX6_bypassedModules_11 : decode cX6_bypassedModules 11 = .ok (.ireturn, 1) := by decide +kernel
theorem dX6_bypassedModules_12 : decode cX6_bypassedModules 12 = .ok (.iload_n 2, 1) := by decide +kernel
theorem dX6_bypassedModules_13 : decode cX6_bypassedModules 13 = .ok (.iconst 0, 1) := by decide +kernel
theorem dX6_bypassedModules_14 : decode cX6_bypassedModules 14 = .ok (.aload_n 0, 1) := by decide +kernel
theorem dX6_bypassedModules_15 : decode cX6_bypassedModules 15 = .ok (.iload_n 1, 1) := by decide +kernel
theorem dX6_bypassedModules_16 : decode cX6_bypassedModules 16 = .ok (.invokevirtual 103, 3) := by decide +kernel
theorem dX6_bypassedModules_19 : decode cX6_bypassedModules 19 = .ok (.invokestatic 55, 3) := by decide +kernel
theorem dX6_bypassedModules_22 : decode cX6_bypassedModules 22 = .ok (.ifCond .ne 7, 3) := by decide +kernel
theorem dX6_bypassedModules_25 : decode cX6_bypassedModules 25 = .ok (.sipush (-1003), 3) := by decide +kernel
theorem dX6_bypassedModules_28 : decode cX6_bypassedModules 28 = .ok (.ireturn, 1) := by decide +kernel
theorem dX6_bypassedModules_29 : decode cX6_bypassedModules 29 = .ok (.iconst 0, 1) := by decide +kernel
theorem dX6_bypassedModules_30 : decode cX6_bypassedModules 30 = .ok (.istore_n 3, 1) := by decide +kernel
theorem dX6_bypassedModules_31 : decode cX6_bypassedModules 31 = .ok (.iconst 0, 1) := by decide +kernel
theorem dX6_bypassedModules_32 : decode cX6_bypassedModules 32 = .ok (.istore 4, 2) := by decide +kernel
theorem dX6_bypassedModules_34 : decode cX6_bypassedModules 34 = .ok (.iload 4, 2) := by decide +kernel
theorem dX6_bypassedModules_36 : decode cX6_bypassedModules 36 = .ok (.aload_n 0, 1) := by decide +kernel
theorem dX6_bypassedModules_37 : decode cX6_bypassedModules 37 = .ok (.getfield 26, 3) := by decide +kernel
theorem dX6_bypassedModules_40 : decode cX6_bypassedModules 40 = .ok (.iload_n 1, 1) := by decide +kernel
theorem dX6_bypassedModules_41 : decode cX6_bypassedModules 41 = .ok (.iaload, 1) := by decide +kernel
theorem dX6_bypassedModules_42 : decode cX6_bypassedModules 42 = .ok (.if_icmp .ge 40, 3) := by decide +kernel
theorem dX6_bypassedModules_45 : decode cX6_bypassedModules 45 = .ok (.iload_n 3, 1) := by decide +kernel
theorem dX6_bypassedModules_46 : decode cX6_bypassedModules 46 = .ok (.iload_n 2, 1) := by decide +kernel
theorem dX6_bypassedModules_47 : decode cX6_bypassedModules 47 = .ok (.aload_n 0, 1) := by decide +kernel
theorem dX6_bypassedModules_48 : decode cX6_bypassedModules 48 = .ok (.aload_n 0, 1) := by decide +kernel
theorem dX6_bypassedModules_49 : decode cX6_bypassedModules 49 = .ok (.getfield 29, 3) := by decide +kernel
theorem dX6_bypassedModules_52 : decode cX6_bypassedModules 52 = .ok (.bipush 12, 2) := by decide +kernel
theorem dX6_bypassedModules_54 : decode cX6_bypassedModules 54 = .ok (.iload_n 1, 1) := by decide +kernel
theorem dX6_bypassedModules_55 : decode cX6_bypassedModules 55 = .ok (.imul, 1) := by decide +kernel
theorem dX6_bypassedModules_56 : decode cX6_bypassedModules 56 = .ok (.iload 4, 2) := by decide +kernel
theorem dX6_bypassedModules_58 : decode cX6_bypassedModules 58 = .ok (.iadd, 1) := by decide +kernel
theorem dX6_bypassedModules_59 : decode cX6_bypassedModules 59 = .ok (.iaload, 1) := by decide +kernel
theorem dX6_bypassedModules_60 : decode cX6_bypassedModules 60 = .ok (.invokevirtual 84, 3) := by decide +kernel
theorem dX6_bypassedModules_63 : decode cX6_bypassedModules 63 = .ok (.if_icmp .le 10, 3) := by decide +kernel
theorem dX6_bypassedModules_66 : decode cX6_bypassedModules 66 = .ok (.iconst 1, 1) := by decide +kernel
theorem dX6_bypassedModules_67 : decode cX6_bypassedModules 67 = .ok (.iload 4, 2) := by decide +kernel
theorem dX6_bypassedModules_69 : decode cX6_bypassedModules 69 = .ok (.ishl, 1) := by decide +kernel
theorem dX6_bypassedModules_70 : decode cX6_bypassedModules 70 = .ok (.goto 4, 3) := by decide +kernel
theorem dX6_bypassedModules_73 : decode cX6_bypassedModules 73 = .ok (.iconst 0, 1) := by decide +kernel
theorem dX6_bypassedModules_74 : decode cX6_bypassedModules 74 = .ok (.ior, 1) := by decide +kernel
theorem dX6_bypassedModules_75 : decode cX6_bypassedModules 75 = .ok (.istore_n 3, 1) := by decide +kernel
theorem dX6_bypassedModules_76 : decode cX6_bypassedModules 76 = .ok (.iinc 4 1, 3) := by decide +kernel
theorem dX6_bypassedModules_79 : decode cX6_bypassedModules 79 = .ok (.goto (-45), 3) := by decide +kernel
theorem dX6_bypassedModules_82 : decode cX6_bypassedModules 82 = .ok (.iload_n 3, 1) := by decide +kernel
theorem dX6_bypassedModules_83 : decode cX6_bypassedModules 83 = .ok (.ireturn, 1) := by decide +kernel
theorem dX6_layOut_0 : decode cX6_layOut 0 = .ok (.aload_n 0, 1) := by decide +kernel
theorem dX6_layOut_1 : decode cX6_layOut 1 = .ok (.aload_n 0, 1) := by decide +kernel
theorem dX6_layOut_2 : decode cX6_layOut 2 = .ok (.iload_n 1, 1) := by decide +kernel
theorem dX6_layOut_3 : decode cX6_layOut 3 = .ok (.invokevirtual 103, 3) := by decide +kernel
theorem dX6_layOut_6 : decode cX6_layOut 6 = .ok (.putfield 110, 3) := by decide +kernel
theorem dX6_layOut_9 : decode cX6_layOut 9 = .ok (.iconst 0, 1) := by decide +kernel
theorem dX6_layOut_10 : decode cX6_layOut 10 = .ok (.istore_n 2, 1) := by decide +kernel
theorem dX6_layOut_11 : decode cX6_layOut 11 = .ok (.iload_n 2, 1) := by decide +kernel
theorem dX6_layOut_12 : decode cX6_layOut 12 = .ok (.aload_n 0, 1) := by decide +kernel
theorem dX6_layOut_13 : decode cX6_layOut 13 = .ok (.getfield 110, 3) := by decide +kernel
theorem dX6_layOut_16 : decode cX6_layOut 16 = .ok (.if_icmp .gt 21, 3) := by decide +kernel
theorem dX6_layOut_19 : decode cX6_layOut 19 = .ok (.aload_n 0, 1) := by decide +kernel
theorem dX6_layOut_20 : decode cX6_layOut 20 = .ok (.getfield 32, 3) := by decide +kernel
theorem dX6_layOut_23 : decode cX6_layOut 23 = .ok (.iload_n 2, 1) := by decide +kernel
theorem dX6_layOut_24 : decode cX6_layOut 24 = .ok (.aload_n 0, 1) := by decide +kernel
theorem dX6_layOut_25 : decode cX6_layOut 25 = .ok (.iload_n 1, 1) := by decide +kernel
theorem dX6_layOut_26 : decode cX6_layOut 26 = .ok (.iload_n 2, 1) := by decide +kernel
theorem dX6_layOut_27 : decode cX6_layOut 27 = .ok (.invokevirtual 106, 3) := by decide +kernel
theorem dX6_layOut_30 : decode cX6_layOut 30 = .ok (.lastore, 1) := by decide +kernel
theorem dX6_layOut_31 : decode cX6_layOut 31 = .ok (.iinc 2 1, 3) := by decide +kernel
theorem dX6_layOut_34 : decode cX6_layOut 34 = .ok (.goto (-23), 3) := by decide +kernel
theorem dX6_layOut_37 : decode cX6_layOut 37 = .ok (.return_, 1) := by decide +kernel
theorem dX6_isPeak_0 : decode cX6_isPeak 0 = .ok (.aload_n 0, 1) := by decide +kernel
theorem dX6_isPeak_1 : decode cX6_isPeak 1 = .ok (.getfield 32, 3) := by decide +kernel
theorem dX6_isPeak_4 : decode cX6_isPeak 4 = .ok (.iload_n 1, 1) := by decide +kernel
theorem dX6_isPeak_5 : decode cX6_isPeak 5 = .ok (.laload, 1) := by decide +kernel
theorem dX6_isPeak_6 : decode cX6_isPeak 6 = .ok (.aload_n 0, 1) := by decide +kernel
theorem dX6_isPeak_7 : decode cX6_isPeak 7 = .ok (.getfield 32, 3) := by decide +kernel
theorem dX6_isPeak_10 : decode cX6_isPeak 10 = .ok (.iload_n 1, 1) := by decide +kernel
theorem dX6_isPeak_11 : decode cX6_isPeak 11 = .ok (.iconst 1, 1) := by decide +kernel
theorem dX6_isPeak_12 : decode cX6_isPeak 12 = .ok (.isub, 1) := by decide +kernel
theorem dX6_isPeak_13 : decode cX6_isPeak 13 = .ok (.laload, 1) := by decide +kernel
theorem dX6_isPeak_14 : decode cX6_isPeak 14 = .ok (.lcmp, 1) := by decide +kernel
theorem dX6_isPeak_15 : decode cX6_isPeak 15 = .ok (.ifCond .le 33, 3) := by decide +kernel
theorem dX6_isPeak_18 : decode cX6_isPeak 18 = .ok (.iload_n 1, 1) := by decide +kernel
theorem dX6_isPeak_19 : decode cX6_isPeak 19 = .ok (.aload_n 0, 1) := by decide +kernel
theorem dX6_isPeak_20 : decode cX6_isPeak 20 = .ok (.getfield 110, 3) := by decide +kernel
theorem dX6_isPeak_23 : decode cX6_isPeak 23 = .ok (.if_icmp .eq 21, 3) := by decide +kernel
theorem dX6_isPeak_26 : decode cX6_isPeak 26 = .ok (.aload_n 0, 1) := by decide +kernel
theorem dX6_isPeak_27 : decode cX6_isPeak 27 = .ok (.getfield 32, 3) := by decide +kernel
theorem dX6_isPeak_30 : decode cX6_isPeak 30 = .ok (.iload_n 1, 1) := by decide +kernel
theorem dX6_isPeak_31 : decode cX6_isPeak 31 = .ok (.laload, 1) := by decide +kernel
theorem dX6_isPeak_32 : decode cX6_isPeak 32 = .ok (.aload_n 0, 1) := by decide +kernel
theorem dX6_isPeak_33 : decode cX6_isPeak 33 = .ok (.getfield 32, 3) := by decide +kernel
theorem dX6_isPeak_36 : decode cX6_isPeak 36 = .ok (.iload_n 1, 1) := by decide +kernel
theorem dX6_isPeak_37 : decode cX6_isPeak 37 = .ok (.iconst 1, 1) := by decide +kernel
theorem dX6_isPeak_38 : decode cX6_isPeak 38 = .ok (.iadd, 1) := by decide +kernel
theorem dX6_isPeak_39 : decode cX6_isPeak 39 = .ok (.laload, 1) := by decide +kernel
theorem dX6_isPeak_40 : decode cX6_isPeak 40 = .ok (.lcmp, 1) := by decide +kernel
theorem dX6_isPeak_41 : decode cX6_isPeak 41 = .ok (.ifCond .le 7, 3) := by decide +kernel
theorem dX6_isPeak_44 : decode cX6_isPeak 44 = .ok (.iconst 1, 1) := by decide +kernel
theorem dX6_isPeak_45 : decode cX6_isPeak 45 = .ok (.goto 4, 3) := by decide +kernel
theorem dX6_isPeak_48 : decode cX6_isPeak 48 = .ok (.iconst 0, 1) := by decide +kernel
theorem dX6_isPeak_49 : decode cX6_isPeak 49 = .ok (.ireturn, 1) := by decide +kernel
theorem dX6_peakCount_0 : decode cX6_peakCount 0 = .ok (.aload_n 0, 1) := by decide +kernel
theorem dX6_peakCount_1 : decode cX6_peakCount 1 = .ok (.iload_n 1, 1) := by decide +kernel
theorem dX6_peakCount_2 : decode cX6_peakCount 2 = .ok (.invokevirtual 62, 3) := by decide +kernel
theorem dX6_peakCount_5 : decode cX6_peakCount 5 = .ok (.ifCond .ne 7, 3) := by decide +kernel
theorem dX6_peakCount_8 : decode cX6_peakCount 8 = .ok (.sipush (-1001), 3) := by decide +kernel
theorem dX6_peakCount_11 : decode cX6_peakCount 11 = .ok (.ireturn, 1) := by decide +kernel
theorem dX6_peakCount_12 : decode cX6_peakCount 12 = .ok (.aload_n 0, 1) := by decide +kernel
theorem dX6_peakCount_13 : decode cX6_peakCount 13 = .ok (.iload_n 1, 1) := by decide +kernel
theorem dX6_peakCount_14 : decode cX6_peakCount 14 = .ok (.invokevirtual 113, 3) := by decide +kernel
theorem dX6_peakCount_17 : decode cX6_peakCount 17 = .ok (.iconst 0, 1) := by decide +kernel
theorem dX6_peakCount_18 : decode cX6_peakCount 18 = .ok (.istore_n 2, 1) := by decide +kernel
theorem dX6_peakCount_19 : decode cX6_peakCount 19 = .ok (.iconst 1, 1) := by decide +kernel
theorem dX6_peakCount_20 : decode cX6_peakCount 20 = .ok (.istore_n 3, 1) := by decide +kernel
theorem dX6_peakCount_21 : decode cX6_peakCount 21 = .ok (.iload_n 3, 1) := by decide +kernel
theorem dX6_peakCount_22 : decode cX6_peakCount 22 = .ok (.aload_n 0, 1) := by decide +kernel
theorem dX6_peakCount_23 : decode cX6_peakCount 23 = .ok (.getfield 110, 3) := by decide +kernel
theorem dX6_peakCount_26 : decode cX6_peakCount 26 = .ok (.if_icmp .gt 25, 3) := by decide +kernel
theorem dX6_peakCount_29 : decode cX6_peakCount 29 = .ok (.iload_n 2, 1) := by decide +kernel
theorem dX6_peakCount_30 : decode cX6_peakCount 30 = .ok (.aload_n 0, 1) := by decide +kernel
theorem dX6_peakCount_31 : decode cX6_peakCount 31 = .ok (.iload_n 3, 1) := by decide +kernel
theorem dX6_peakCount_32 : decode cX6_peakCount 32 = .ok (.invokevirtual 116, 3) := by decide +kernel
theorem dX6_peakCount_35 : decode cX6_peakCount 35 = .ok (.ifCond .eq 7, 3) := by decide +kernel
theorem dX6_peakCount_38 : decode cX6_peakCount 38 = .ok (.iconst 1, 1) := by decide +kernel
theorem dX6_peakCount_39 : decode cX6_peakCount 39 = .ok (.goto 4, 3) := by decide +kernel
theorem dX6_peakCount_42 : decode cX6_peakCount 42 = .ok (.iconst 0, 1) := by decide +kernel
theorem dX6_peakCount_43 : decode cX6_peakCount 43 = .ok (.iadd, 1) := by decide +kernel
theorem dX6_peakCount_44 : decode cX6_peakCount 44 = .ok (.istore_n 2, 1) := by decide +kernel
theorem dX6_peakCount_45 : decode cX6_peakCount 45 = .ok (.iinc 3 1, 3) := by decide +kernel
theorem dX6_peakCount_48 : decode cX6_peakCount 48 = .ok (.goto (-27), 3) := by decide +kernel
theorem dX6_peakCount_51 : decode cX6_peakCount 51 = .ok (.iload_n 2, 1) := by decide +kernel
theorem dX6_peakCount_52 : decode cX6_peakCount 52 = .ok (.ireturn, 1) := by decide +kernel
theorem dX6_peakCurrent_0 : decode cX6_peakCurrent 0 = .ok (.aload_n 0, 1) := by decide +kernel
theorem dX6_peakCurrent_1 : decode cX6_peakCurrent 1 = .ok (.iload_n 1, 1) := by decide +kernel
theorem dX6_peakCurrent_2 : decode cX6_peakCurrent 2 = .ok (.invokevirtual 62, 3) := by decide +kernel
theorem dX6_peakCurrent_5 : decode cX6_peakCurrent 5 = .ok (.ifCond .ne 7, 3) := by decide +kernel
theorem dX6_peakCurrent_8 : decode cX6_peakCurrent 8 = .ok (.sipush (-1001), 3) := by decide +kernel
theorem dX6_peakCurrent_11 : decode cX6_peakCurrent 11 = .ok (.ireturn, 1) := by decide +kernel
theorem dX6_peakCurrent_12 : decode cX6_peakCurrent 12 = .ok (.iload_n 2, 1) := by decide +kernel
theorem dX6_peakCurrent_13 : decode cX6_peakCurrent 13 = .ok (.ifCond .ge 7, 3) := by decide +kernel
theorem dX6_peakCurrent_16 : decode cX6_peakCurrent 16 = .ok (.sipush (-1003), 3) := by decide +kernel
theorem dX6_peakCurrent_19 : decode cX6_peakCurrent 19 = .ok (.ireturn, 1) := by decide +kernel
theorem dX6_peakCurrent_20 : decode cX6_peakCurrent 20 = .ok (.aload_n 0, 1) := by decide +kernel
theorem dX6_peakCurrent_21 : decode cX6_peakCurrent 21 = .ok (.iload_n 1, 1) := by decide +kernel
theorem dX6_peakCurrent_22 : decode cX6_peakCurrent 22 = .ok (.invokevirtual 113, 3) := by decide +kernel
theorem dX6_peakCurrent_25 : decode cX6_peakCurrent 25 = .ok (.iload_n 2, 1) := by decide +kernel
theorem dX6_peakCurrent_26 : decode cX6_peakCurrent 26 = .ok (.istore_n 3, 1) := by decide +kernel
theorem dX6_peakCurrent_27 : decode cX6_peakCurrent 27 = .ok (.iconst 1, 1) := by decide +kernel
theorem dX6_peakCurrent_28 : decode cX6_peakCurrent 28 = .ok (.istore 4, 2) := by decide +kernel
theorem dX6_peakCurrent_30 : decode cX6_peakCurrent 30 = .ok (.iload 4, 2) := by decide +kernel
theorem dX6_peakCurrent_32 : decode cX6_peakCurrent 32 = .ok (.aload_n 0, 1) := by decide +kernel
theorem dX6_peakCurrent_33 : decode cX6_peakCurrent 33 = .ok (.getfield 110, 3) := by decide +kernel
theorem dX6_peakCurrent_36 : decode cX6_peakCurrent 36 = .ok (.if_icmp .gt 28, 3) := by decide +kernel
theorem dX6_peakCurrent_39 : decode cX6_peakCurrent 39 = .ok (.aload_n 0, 1) := by decide +kernel
theorem dX6_peakCurrent_40 : decode cX6_peakCurrent 40 = .ok (.iload 4, 2) := by decide +kernel
theorem dX6_peakCurrent_42 : decode cX6_peakCurrent 42 = .ok (.invokevirtual 116, 3) := by decide +kernel
theorem dX6_peakCurrent_45 : decode cX6_peakCurrent 45 = .ok (.ifCond .eq 13, 3) := by decide +kernel
theorem dX6_peakCurrent_48 : decode cX6_peakCurrent 48 = .ok (.iload_n 3, 1) := by decide +kernel
theorem dX6_peakCurrent_49 : decode cX6_peakCurrent 49 = .ok (.ifCond .ne 6, 3) := by decide +kernel
theorem dX6_peakCurrent_52 : decode cX6_peakCurrent 52 = .ok (.iload 4, 2) := by decide +kernel
theorem dX6_peakCurrent_54 : decode cX6_peakCurrent 54 = .ok (.ireturn, 1) := by decide +kernel
theorem dX6_peakCurrent_55 : decode cX6_peakCurrent 55 = .ok (.iinc 3 (-1), 3) := by decide +kernel
theorem dX6_peakCurrent_58 : decode cX6_peakCurrent 58 = .ok (.iinc 4 1, 3) := by decide +kernel
theorem dX6_peakCurrent_61 : decode cX6_peakCurrent 61 = .ok (.goto (-31), 3) := by decide +kernel
theorem dX6_peakCurrent_64 : decode cX6_peakCurrent 64 = .ok (.sipush (-1005), 3) := by decide +kernel
theorem dX6_peakCurrent_67 : decode cX6_peakCurrent 67 = .ok (.ireturn, 1) := by decide +kernel
theorem dX6_bestOf_0 : decode cX6_bestOf 0 = .ok (.aload_n 0, 1) := by decide +kernel
theorem dX6_bestOf_1 : decode cX6_bestOf 1 = .ok (.iload_n 1, 1) := by decide +kernel
theorem dX6_bestOf_2 : decode cX6_bestOf 2 = .ok (.invokevirtual 113, 3) := by decide +kernel
theorem dX6_bestOf_5 : decode cX6_bestOf 5 = .ok (.iconst 0, 1) := by decide +kernel
theorem dX6_bestOf_6 : decode cX6_bestOf 6 = .ok (.istore_n 2, 1) := by decide +kernel
theorem dX6_bestOf_7 : decode cX6_bestOf 7 = .ok (.iconst 1, 1) := by decide +kernel
theorem dX6_bestOf_8 : decode cX6_bestOf 8 = .ok (.istore_n 3, 1) := by decide +kernel
theorem dX6_bestOf_9 : decode cX6_bestOf 9 = .ok (.iload_n 3, 1) := by decide +kernel
theorem dX6_bestOf_10 : decode cX6_bestOf 10 = .ok (.aload_n 0, 1) := by decide +kernel
theorem dX6_bestOf_11 : decode cX6_bestOf 11 = .ok (.getfield 110, 3) := by decide +kernel
theorem dX6_bestOf_14 : decode cX6_bestOf 14 = .ok (.if_icmp .gt 31, 3) := by decide +kernel
theorem dX6_bestOf_17 : decode cX6_bestOf 17 = .ok (.aload_n 0, 1) := by decide +kernel
theorem dX6_bestOf_18 : decode cX6_bestOf 18 = .ok (.getfield 32, 3) := by decide +kernel
theorem dX6_bestOf_21 : decode cX6_bestOf 21 = .ok (.iload_n 3, 1) := by decide +kernel
theorem dX6_bestOf_22 : decode cX6_bestOf 22 = .ok (.laload, 1) := by decide +kernel
theorem dX6_bestOf_23 : decode cX6_bestOf 23 = .ok (.aload_n 0, 1) := by decide +kernel
theorem dX6_bestOf_24 : decode cX6_bestOf 24 = .ok (.getfield 32, 3) := by decide +kernel
theorem dX6_bestOf_27 : decode cX6_bestOf 27 = .ok (.iload_n 2, 1) := by decide +kernel
theorem dX6_bestOf_28 : decode cX6_bestOf 28 = .ok (.laload, 1) := by decide +kernel
theorem dX6_bestOf_29 : decode cX6_bestOf 29 = .ok (.lcmp, 1) := by decide +kernel
theorem dX6_bestOf_30 : decode cX6_bestOf 30 = .ok (.ifCond .le 7, 3) := by decide +kernel
theorem dX6_bestOf_33 : decode cX6_bestOf 33 = .ok (.iload_n 3, 1) := by decide +kernel
theorem dX6_bestOf_34 : decode cX6_bestOf 34 = .ok (.goto 4, 3) := by decide +kernel
theorem dX6_bestOf_37 : decode cX6_bestOf 37 = .ok (.iload_n 2, 1) := by decide +kernel
theorem dX6_bestOf_38 : decode cX6_bestOf 38 = .ok (.istore_n 2, 1) := by decide +kernel
theorem dX6_bestOf_39 : decode cX6_bestOf 39 = .ok (.iinc 3 1, 3) := by decide +kernel
theorem dX6_bestOf_42 : decode cX6_bestOf 42 = .ok (.goto (-33), 3) := by decide +kernel
theorem dX6_bestOf_45 : decode cX6_bestOf 45 = .ok (.iload_n 2, 1) := by decide +kernel
theorem dX6_bestOf_46 : decode cX6_bestOf 46 = .ok (.ireturn, 1) := by decide +kernel
theorem dX6_bestPowerOf_0 : decode cX6_bestPowerOf 0 = .ok (.aload_n 0, 1) := by decide +kernel
theorem dX6_bestPowerOf_1 : decode cX6_bestPowerOf 1 = .ok (.getfield 32, 3) := by decide +kernel
theorem dX6_bestPowerOf_4 : decode cX6_bestPowerOf 4 = .ok (.aload_n 0, 1) := by decide +kernel
theorem dX6_bestPowerOf_5 : decode cX6_bestPowerOf 5 = .ok (.iload_n 1, 1) := by decide +kernel
theorem dX6_bestPowerOf_6 : decode cX6_bestPowerOf 6 = .ok (.invokevirtual 119, 3) := by decide +kernel
theorem dX6_bestPowerOf_9 : decode cX6_bestPowerOf 9 = .ok (.laload, 1) := by decide +kernel
theorem dX6_bestPowerOf_10 : decode cX6_bestPowerOf 10 = .ok (.lreturn, 1) := by decide +kernel
theorem dX6_bestCurrent_0 : decode cX6_bestCurrent 0 = .ok (.aload_n 0, 1) := by decide +kernel
theorem dX6_bestCurrent_1 : decode cX6_bestCurrent 1 = .ok (.iload_n 1, 1) := by decide +kernel
theorem dX6_bestCurrent_2 : decode cX6_bestCurrent 2 = .ok (.invokevirtual 62, 3) := by decide +kernel
theorem dX6_bestCurrent_5 : decode cX6_bestCurrent 5 = .ok (.ifCond .eq 11, 3) := by decide +kernel
theorem dX6_bestCurrent_8 : decode cX6_bestCurrent 8 = .ok (.aload_n 0, 1) := by decide +kernel
theorem dX6_bestCurrent_9 : decode cX6_bestCurrent 9 = .ok (.iload_n 1, 1) := by decide +kernel
theorem dX6_bestCurrent_10 : decode cX6_bestCurrent 10 = .ok (.invokevirtual 119, 3) := by decide +kernel
theorem dX6_bestCurrent_13 : decode cX6_bestCurrent 13 = .ok (.goto 6, 3) := by decide +kernel
theorem dX6_bestCurrent_16 : decode cX6_bestCurrent 16 = .ok (.sipush (-1001), 3) := by decide +kernel
theorem dX6_bestCurrent_19 : decode cX6_bestCurrent 19 = .ok (.ireturn, 1) := by decide +kernel
theorem dX6_bestPower_0 : decode cX6_bestPower 0 = .ok (.aload_n 0, 1) := by decide +kernel
theorem dX6_bestPower_1 : decode cX6_bestPower 1 = .ok (.iload_n 1, 1) := by decide +kernel
theorem dX6_bestPower_2 : decode cX6_bestPower 2 = .ok (.invokevirtual 62, 3) := by decide +kernel
theorem dX6_bestPower_5 : decode cX6_bestPower 5 = .ok (.ifCond .eq 11, 3) := by decide +kernel
theorem dX6_bestPower_8 : decode cX6_bestPower 8 = .ok (.aload_n 0, 1) := by decide +kernel
theorem dX6_bestPower_9 : decode cX6_bestPower 9 = .ok (.iload_n 1, 1) := by decide +kernel
theorem dX6_bestPower_10 : decode cX6_bestPower 10 = .ok (.invokevirtual 122, 3) := by decide +kernel
theorem dX6_bestPower_13 : decode cX6_bestPower 13 = .ok (.goto 6, 3) := by decide +kernel
theorem dX6_bestPower_16 : decode cX6_bestPower 16 = .ok (.ldc2_w 98, 3) := by decide +kernel
theorem dX6_bestPower_19 : decode cX6_bestPower 19 = .ok (.lreturn, 1) := by decide +kernel
theorem dX6_perturbAndObserve_0 : decode cX6_perturbAndObserve 0 = .ok (.aload_n 0, 1) := by decide +kernel
theorem dX6_perturbAndObserve_1 : decode cX6_perturbAndObserve 1 = .ok (.iload_n 1, 1) := by decide +kernel
theorem dX6_perturbAndObserve_2 : decode cX6_perturbAndObserve 2 = .ok (.invokevirtual 62, 3) := by decide +kernel
theorem dX6_perturbAndObserve_5 : decode cX6_perturbAndObserve 5 = .ok (.ifCond .ne 7, 3) := by decide +kernel
theorem dX6_perturbAndObserve_8 : decode cX6_perturbAndObserve 8 = .ok (.sipush (-1001), 3) := by decide +kernel
theorem dX6_perturbAndObserve_11 : decode cX6_perturbAndObserve 11 = .ok (.ireturn, 1) := by decide +kernel
theorem dX6_perturbAndObserve_12 : decode cX6_perturbAndObserve 12 = .ok (.aload_n 0, 1) := by decide +kernel
theorem dX6_perturbAndObserve_13 : decode cX6_perturbAndObserve 13 = .ok (.iload_n 1, 1) := by decide +kernel
theorem dX6_perturbAndObserve_14 : decode cX6_perturbAndObserve 14 = .ok (.invokevirtual 113, 3) := by decide +kernel
theorem dX6_perturbAndObserve_17 : decode cX6_perturbAndObserve 17 = .ok (.iload_n 2, 1) := by decide +kernel
theorem dX6_perturbAndObserve_18 : decode cX6_perturbAndObserve 18 = .ok (.iconst 0, 1) := by decide +kernel
theorem dX6_perturbAndObserve_19 : decode cX6_perturbAndObserve 19 = .ok (.aload_n 0, 1) := by decide +kernel
theorem dX6_perturbAndObserve_20 : decode cX6_perturbAndObserve 20 = .ok (.getfield 110, 3) := by decide +kernel
theorem dX6_perturbAndObserve_23 : decode cX6_perturbAndObserve 23 = .ok (.invokestatic 55, 3) := by decide +kernel
theorem dX6_perturbAndObserve_26 : decode cX6_perturbAndObserve 26 = .ok (.ifCond .eq 25, 3) := by decide +kernel
theorem dX6_perturbAndObserve_29 : decode cX6_perturbAndObserve 29 = .ok (.iload_n 3, 1) := by decide +kernel
theorem dX6_perturbAndObserve_30 : decode cX6_perturbAndObserve 30 = .ok (.iconst 1, 1) := by decide +kernel
theorem dX6_perturbAndObserve_31 : decode cX6_perturbAndObserve 31 = .ok (.bipush 100, 2) := by decide +kernel
theorem dX6_perturbAndObserve_33 : decode cX6_perturbAndObserve 33 = .ok (.invokestatic 55, 3) := by decide +kernel
theorem dX6_perturbAndObserve_36 : decode cX6_perturbAndObserve 36 = .ok (.ifCond .eq 15, 3) := by decide +kernel
theorem dX6_perturbAndObserve_39 : decode cX6_perturbAndObserve 39 = .ok (.iload 4, 2) := by decide +kernel
theorem dX6_perturbAndObserve_41 : decode cX6_perturbAndObserve 41 = .ok (.iconst 0, 1) := by decide +kernel
theorem dX6_perturbAndObserve_42 : decode cX6_perturbAndObserve 42 = .ok (.sipush 200, 3) := by decide +kernel
theorem dX6_perturbAndObserve_45 : decode cX6_perturbAndObserve 45 = .ok (.invokestatic 55, 3) := by decide +kernel
theorem dX6_perturbAndObserve_48 : decode cX6_perturbAndObserve 48 = .ok (.ifCond .ne 7, 3) := by decide +kernel
theorem dX6_perturbAndObserve_51 : decode cX6_perturbAndObserve 51 = .ok (.sipush (-1003), 3) := by decide +kernel
theorem dX6_perturbAndObserve_54 : decode cX6_perturbAndObserve 54 = .ok (.ireturn, 1) := by decide +kernel
theorem dX6_perturbAndObserve_55 : decode cX6_perturbAndObserve 55 = .ok (.iload_n 2, 1) := by decide +kernel
theorem dX6_perturbAndObserve_56 : decode cX6_perturbAndObserve 56 = .ok (.istore 5, 2) := by decide +kernel
theorem dX6_perturbAndObserve_58 : decode cX6_perturbAndObserve 58 = .ok (.iconst 1, 1) := by decide +kernel
theorem dX6_perturbAndObserve_59 : decode cX6_perturbAndObserve 59 = .ok (.istore 6, 2) := by decide +kernel
theorem dX6_perturbAndObserve_61 : decode cX6_perturbAndObserve 61 = .ok (.iconst 0, 1) := by decide +kernel
theorem dX6_perturbAndObserve_62 : decode cX6_perturbAndObserve 62 = .ok (.istore 7, 2) := by decide +kernel
theorem dX6_perturbAndObserve_64 : decode cX6_perturbAndObserve 64 = .ok (.iload 7, 2) := by decide +kernel
theorem dX6_perturbAndObserve_66 : decode cX6_perturbAndObserve 66 = .ok (.iload 4, 2) := by decide +kernel
theorem dX6_perturbAndObserve_68 : decode cX6_perturbAndObserve 68 = .ok (.if_icmp .ge 77, 3) := by decide +kernel
theorem dX6_perturbAndObserve_71 : decode cX6_perturbAndObserve 71 = .ok (.iload 5, 2) := by decide +kernel
theorem dX6_perturbAndObserve_73 : decode cX6_perturbAndObserve 73 = .ok (.iload 6, 2) := by decide +kernel
theorem dX6_perturbAndObserve_75 : decode cX6_perturbAndObserve 75 = .ok (.iload_n 3, 1) := by decide +kernel
theorem dX6_perturbAndObserve_76 : decode cX6_perturbAndObserve 76 = .ok (.imul, 1) := by decide +kernel
theorem dX6_perturbAndObserve_77 : decode cX6_perturbAndObserve 77 = .ok (.iadd, 1) := by decide +kernel
theorem dX6_perturbAndObserve_78 : decode cX6_perturbAndObserve 78 = .ok (.istore 8, 2) := by decide +kernel
theorem dX6_perturbAndObserve_80 : decode cX6_perturbAndObserve 80 = .ok (.iload 8, 2) := by decide +kernel
theorem dX6_perturbAndObserve_82 : decode cX6_perturbAndObserve 82 = .ok (.ifCond .ge 7, 3) := by decide +kernel
theorem dX6_perturbAndObserve_85 : decode cX6_perturbAndObserve 85 = .ok (.iconst 0, 1) := by decide +kernel
theorem dX6_perturbAndObserve_86 : decode cX6_perturbAndObserve 86 = .ok (.goto 21, 3) := by decide +kernel
theorem dX6_perturbAndObserve_89 : decode cX6_perturbAndObserve 89 = .ok (.iload 8, 2) := by decide +kernel
theorem dX6_perturbAndObserve_91 : decode cX6_perturbAndObserve 91 = .ok (.aload_n 0, 1) := by decide +kernel
theorem dX6_perturbAndObserve_92 : decode cX6_perturbAndObserve 92 = .ok (.getfield 110, 3) := by decide +kernel
theorem dX6_perturbAndObserve_95 : decode cX6_perturbAndObserve 95 = .ok (.if_icmp .le 10, 3) := by decide +kernel
theorem dX6_perturbAndObserve_98 : decode cX6_perturbAndObserve 98 = .ok (.aload_n 0, 1) := by decide +kernel
theorem dX6_perturbAndObserve_99 : decode cX6_perturbAndObserve 99 = .ok (.getfield 110, 3) := by decide +kernel
theorem dX6_perturbAndObserve_102 : decode cX6_perturbAndObserve 102 = .ok (.goto 5, 3) := by decide +kernel
theorem dX6_perturbAndObserve_105 : decode cX6_perturbAndObserve 105 = .ok (.iload 8, 2) := by decide +kernel
theorem dX6_perturbAndObserve_107 : decode cX6_perturbAndObserve 107 = .ok (.istore 8, 2) := by decide +kernel
theorem dX6_perturbAndObserve_109 : decode cX6_perturbAndObserve 109 = .ok (.aload_n 0, 1) := by decide +kernel
theorem dX6_perturbAndObserve_110 : decode cX6_perturbAndObserve 110 = .ok (.getfield 32, 3) := by decide +kernel
theorem dX6_perturbAndObserve_113 : decode cX6_perturbAndObserve 113 = .ok (.iload 8, 2) := by decide +kernel
theorem dX6_perturbAndObserve_115 : decode cX6_perturbAndObserve 115 = .ok (.laload, 1) := by decide +kernel
theorem dX6_perturbAndObserve_116 : decode cX6_perturbAndObserve 116 = .ok (.aload_n 0, 1) := by decide +kernel
theorem dX6_perturbAndObserve_117 : decode cX6_perturbAndObserve 117 = .ok (.getfield 32, 3) := by decide +kernel
theorem dX6_perturbAndObserve_120 : decode cX6_perturbAndObserve 120 = .ok (.iload 5, 2) := by decide +kernel
theorem dX6_perturbAndObserve_122 : decode cX6_perturbAndObserve 122 = .ok (.laload, 1) := by decide +kernel
theorem dX6_perturbAndObserve_123 : decode cX6_perturbAndObserve 123 = .ok (.lcmp, 1) := by decide +kernel
theorem dX6_perturbAndObserve_124 : decode cX6_perturbAndObserve 124 = .ok (.ifCond .le 10, 3) := by decide +kernel
theorem dX6_perturbAndObserve_127 : decode cX6_perturbAndObserve 127 = .ok (.iload 8, 2) := by decide +kernel
theorem dX6_perturbAndObserve_129 : decode cX6_perturbAndObserve 129 = .ok (.istore 5, 2) := by decide +kernel
theorem dX6_perturbAndObserve_131 : decode cX6_perturbAndObserve 131 = .ok (.goto 8, 3) := by decide +kernel
theorem dX6_perturbAndObserve_134 : decode cX6_perturbAndObserve 134 = .ok (.iload 6, 2) := by decide +kernel
theorem dX6_perturbAndObserve_136 : decode cX6_perturbAndObserve 136 = .ok (.ineg, 1) := by decide +kernel
theorem dX6_perturbAndObserve_137 : decode cX6_perturbAndObserve 137 = .ok (.istore 6, 2) := by decide +kernel
theorem dX6_perturbAndObserve_139 : decode cX6_perturbAndObserve 139 = .ok (.iinc 7 1, 3) := by decide +kernel
theorem dX6_perturbAndObserve_142 : decode cX6_perturbAndObserve 142 = .ok (.goto (-78), 3) := by decide +kernel
theorem dX6_perturbAndObserve_145 : decode cX6_perturbAndObserve 145 = .ok (.iload 5, 2) := by decide +kernel
theorem dX6_perturbAndObserve_147 : decode cX6_perturbAndObserve 147 = .ok (.ireturn, 1) := by decide +kernel
theorem dX6_scanAndClimb_0 : decode cX6_scanAndClimb 0 = .ok (.aload_n 0, 1) := by decide +kernel
theorem dX6_scanAndClimb_1 : decode cX6_scanAndClimb 1 = .ok (.iload_n 1, 1) := by decide +kernel
theorem dX6_scanAndClimb_2 : decode cX6_scanAndClimb 2 = .ok (.invokevirtual 62, 3) := by decide +kernel
theorem dX6_scanAndClimb_5 : decode cX6_scanAndClimb 5 = .ok (.ifCond .ne 7, 3) := by decide +kernel
theorem dX6_scanAndClimb_8 : decode cX6_scanAndClimb 8 = .ok (.sipush (-1001), 3) := by decide +kernel
theorem dX6_scanAndClimb_11 : decode cX6_scanAndClimb 11 = .ok (.ireturn, 1) := by decide +kernel
theorem dX6_scanAndClimb_12 : decode cX6_scanAndClimb 12 = .ok (.iload_n 2, 1) := by decide +kernel
theorem dX6_scanAndClimb_13 : decode cX6_scanAndClimb 13 = .ok (.iconst 1, 1) := by decide +kernel
theorem dX6_scanAndClimb_14 : decode cX6_scanAndClimb 14 = .ok (.sipush 500, 3) := by decide +kernel
theorem dX6_scanAndClimb_17 : decode cX6_scanAndClimb 17 = .ok (.invokestatic 55, 3) := by decide +kernel
theorem dX6_scanAndClimb_20 : decode cX6_scanAndClimb 20 = .ok (.ifCond .ne 7, 3) := by decide +kernel
theorem dX6_scanAndClimb_23 : decode cX6_scanAndClimb 23 = .ok (.sipush (-1003), 3) := by decide +kernel
theorem dX6_scanAndClimb_26 : decode cX6_scanAndClimb 26 = .ok (.ireturn, 1) := by decide +kernel
theorem dX6_scanAndClimb_27 : decode cX6_scanAndClimb 27 = .ok (.aload_n 0, 1) := by decide +kernel
theorem dX6_scanAndClimb_28 : decode cX6_scanAndClimb 28 = .ok (.iload_n 1, 1) := by decide +kernel
theorem dX6_scanAndClimb_29 : decode cX6_scanAndClimb 29 = .ok (.invokevirtual 113, 3) := by decide +kernel
theorem dX6_scanAndClimb_32 : decode cX6_scanAndClimb 32 = .ok (.iconst 0, 1) := by decide +kernel
theorem dX6_scanAndClimb_33 : decode cX6_scanAndClimb 33 = .ok (.istore_n 3, 1) := by decide +kernel
theorem dX6_scanAndClimb_34 : decode cX6_scanAndClimb 34 = .ok (.iconst 0, 1) := by decide +kernel
theorem dX6_scanAndClimb_35 : decode cX6_scanAndClimb 35 = .ok (.istore 4, 2) := by decide +kernel
theorem dX6_scanAndClimb_37 : decode cX6_scanAndClimb 37 = .ok (.iload 4, 2) := by decide +kernel
theorem dX6_scanAndClimb_39 : decode cX6_scanAndClimb 39 = .ok (.aload_n 0, 1) := by decide +kernel
theorem dX6_scanAndClimb_40 : decode cX6_scanAndClimb 40 = .ok (.getfield 110, 3) := by decide +kernel
theorem dX6_scanAndClimb_43 : decode cX6_scanAndClimb 43 = .ok (.if_icmp .gt 36, 3) := by decide +kernel
theorem dX6_scanAndClimb_46 : decode cX6_scanAndClimb 46 = .ok (.aload_n 0, 1) := by decide +kernel
theorem dX6_scanAndClimb_47 : decode cX6_scanAndClimb 47 = .ok (.getfield 32, 3) := by decide +kernel
theorem dX6_scanAndClimb_50 : decode cX6_scanAndClimb 50 = .ok (.iload 4, 2) := by decide +kernel
theorem dX6_scanAndClimb_52 : decode cX6_scanAndClimb 52 = .ok (.laload, 1) := by decide +kernel
theorem dX6_scanAndClimb_53 : decode cX6_scanAndClimb 53 = .ok (.aload_n 0, 1) := by decide +kernel
theorem dX6_scanAndClimb_54 : decode cX6_scanAndClimb 54 = .ok (.getfield 32, 3) := by decide +kernel
theorem dX6_scanAndClimb_57 : decode cX6_scanAndClimb 57 = .ok (.iload_n 3, 1) := by decide +kernel
theorem dX6_scanAndClimb_58 : decode cX6_scanAndClimb 58 = .ok (.laload, 1) := by decide +kernel
theorem dX6_scanAndClimb_59 : decode cX6_scanAndClimb 59 = .ok (.lcmp, 1) := by decide +kernel
theorem dX6_scanAndClimb_60 : decode cX6_scanAndClimb 60 = .ok (.ifCond .le 8, 3) := by decide +kernel
theorem dX6_scanAndClimb_63 : decode cX6_scanAndClimb 63 = .ok (.iload 4, 2) := by decide +kernel
theorem dX6_scanAndClimb_65 : decode cX6_scanAndClimb 65 = .ok (.goto 4, 3) := by decide +kernel
theorem dX6_scanAndClimb_68 : decode cX6_scanAndClimb 68 = .ok (.iload_n 3, 1) := by decide +kernel
theorem dX6_scanAndClimb_69 : decode cX6_scanAndClimb 69 = .ok (.istore_n 3, 1) := by decide +kernel
theorem dX6_scanAndClimb_70 : decode cX6_scanAndClimb 70 = .ok (.iload 4, 2) := by decide +kernel
theorem dX6_scanAndClimb_72 : decode cX6_scanAndClimb 72 = .ok (.iload_n 2, 1) := by decide +kernel
theorem dX6_scanAndClimb_73 : decode cX6_scanAndClimb 73 = .ok (.iadd, 1) := by decide +kernel
theorem dX6_scanAndClimb_74 : decode cX6_scanAndClimb 74 = .ok (.istore 4, 2) := by decide +kernel
theorem dX6_scanAndClimb_76 : decode cX6_scanAndClimb 76 = .ok (.goto (-39), 3) := by decide +kernel
theorem dX6_scanAndClimb_79 : decode cX6_scanAndClimb 79 = .ok (.iload_n 3, 1) := by decide +kernel
theorem dX6_scanAndClimb_80 : decode cX6_scanAndClimb 80 = .ok (.aload_n 0, 1) := by decide +kernel
theorem dX6_scanAndClimb_81 : decode cX6_scanAndClimb 81 = .ok (.getfield 110, 3) := by decide +kernel
theorem dX6_scanAndClimb_84 : decode cX6_scanAndClimb 84 = .ok (.if_icmp .ge 27, 3) := by decide +kernel
theorem dX6_scanAndClimb_87 : decode cX6_scanAndClimb 87 = .ok (.aload_n 0, 1) := by decide +kernel
theorem dX6_scanAndClimb_88 : decode cX6_scanAndClimb 88 = .ok (.getfield 32, 3) := by decide +kernel
theorem dX6_scanAndClimb_91 : decode cX6_scanAndClimb 91 = .ok (.iload_n 3, 1) := by decide +kernel
theorem dX6_scanAndClimb_92 : decode cX6_scanAndClimb 92 = .ok (.iconst 1, 1) := by decide +kernel
theorem dX6_scanAndClimb_93 : decode cX6_scanAndClimb 93 = .ok (.iadd, 1) := by decide +kernel
theorem dX6_scanAndClimb_94 : decode cX6_scanAndClimb 94 = .ok (.laload, 1) := by decide +kernel
theorem dX6_scanAndClimb_95 : decode cX6_scanAndClimb 95 = .ok (.aload_n 0, 1) := by decide +kernel
theorem dX6_scanAndClimb_96 : decode cX6_scanAndClimb 96 = .ok (.getfield 32, 3) := by decide +kernel
theorem dX6_scanAndClimb_99 : decode cX6_scanAndClimb 99 = .ok (.iload_n 3, 1) := by decide +kernel
theorem dX6_scanAndClimb_100 : decode cX6_scanAndClimb 100 = .ok (.laload, 1) := by decide +kernel
theorem dX6_scanAndClimb_101 : decode cX6_scanAndClimb 101 = .ok (.lcmp, 1) := by decide +kernel
theorem dX6_scanAndClimb_102 : decode cX6_scanAndClimb 102 = .ok (.ifCond .le 9, 3) := by decide +kernel
theorem dX6_scanAndClimb_105 : decode cX6_scanAndClimb 105 = .ok (.iinc 3 1, 3) := by decide +kernel
theorem dX6_scanAndClimb_108 : decode cX6_scanAndClimb 108 = .ok (.goto (-29), 3) := by decide +kernel
theorem dX6_scanAndClimb_111 : decode cX6_scanAndClimb 111 = .ok (.iload_n 3, 1) := by decide +kernel
theorem dX6_scanAndClimb_112 : decode cX6_scanAndClimb 112 = .ok (.ifCond .le 27, 3) := by decide +kernel
theorem dX6_scanAndClimb_115 : decode cX6_scanAndClimb 115 = .ok (.aload_n 0, 1) := by decide +kernel
theorem dX6_scanAndClimb_116 : decode cX6_scanAndClimb 116 = .ok (.getfield 32, 3) := by decide +kernel
theorem dX6_scanAndClimb_119 : decode cX6_scanAndClimb 119 = .ok (.iload_n 3, 1) := by decide +kernel
theorem dX6_scanAndClimb_120 : decode cX6_scanAndClimb 120 = .ok (.iconst 1, 1) := by decide +kernel
theorem dX6_scanAndClimb_121 : decode cX6_scanAndClimb 121 = .ok (.isub, 1) := by decide +kernel
theorem dX6_scanAndClimb_122 : decode cX6_scanAndClimb 122 = .ok (.laload, 1) := by decide +kernel
theorem dX6_scanAndClimb_123 : decode cX6_scanAndClimb 123 = .ok (.aload_n 0, 1) := by decide +kernel
theorem dX6_scanAndClimb_124 : decode cX6_scanAndClimb 124 = .ok (.getfield 32, 3) := by decide +kernel
theorem dX6_scanAndClimb_127 : decode cX6_scanAndClimb 127 = .ok (.iload_n 3, 1) := by decide +kernel
theorem dX6_scanAndClimb_128 : decode cX6_scanAndClimb 128 = .ok (.laload, 1) := by decide +kernel
theorem dX6_scanAndClimb_129 : decode cX6_scanAndClimb 129 = .ok (.lcmp, 1) := by decide +kernel
theorem dX6_scanAndClimb_130 : decode cX6_scanAndClimb 130 = .ok (.ifCond .le 9, 3) := by decide +kernel
theorem dX6_scanAndClimb_133 : decode cX6_scanAndClimb 133 = .ok (.iinc 3 (-1), 3) := by decide +kernel
theorem dX6_scanAndClimb_136 : decode cX6_scanAndClimb 136 = .ok (.goto (-57), 3) := by decide +kernel
theorem dX6_scanAndClimb_139 : decode cX6_scanAndClimb 139 = .ok (.iload_n 3, 1) := by decide +kernel
theorem dX6_scanAndClimb_140 : decode cX6_scanAndClimb 140 = .ok (.ireturn, 1) := by decide +kernel
theorem dX6_addDelivered_0 : decode cX6_addDelivered 0 = .ok (.aload_n 0, 1) := by decide +kernel
theorem dX6_addDelivered_1 : decode cX6_addDelivered 1 = .ok (.iload_n 1, 1) := by decide +kernel
theorem dX6_addDelivered_2 : decode cX6_addDelivered 2 = .ok (.invokevirtual 103, 3) := by decide +kernel
theorem dX6_addDelivered_5 : decode cX6_addDelivered 5 = .ok (.istore_n 2, 1) := by decide +kernel
theorem dX6_addDelivered_6 : decode cX6_addDelivered 6 = .ok (.iconst 0, 1) := by decide +kernel
theorem dX6_addDelivered_7 : decode cX6_addDelivered 7 = .ok (.istore_n 3, 1) := by decide +kernel
theorem dX6_addDelivered_8 : decode cX6_addDelivered 8 = .ok (.iload_n 2, 1) := by decide +kernel
theorem dX6_addDelivered_9 : decode cX6_addDelivered 9 = .ok (.ifCond .lt 53, 3) := by decide +kernel
theorem dX6_addDelivered_12 : decode cX6_addDelivered 12 = .ok (.iload_n 3, 1) := by decide +kernel
theorem dX6_addDelivered_13 : decode cX6_addDelivered 13 = .ok (.sipush 7200, 3) := by decide +kernel
theorem dX6_addDelivered_16 : decode cX6_addDelivered 16 = .ok (.if_icmp .gt 46, 3) := by decide +kernel
theorem dX6_addDelivered_19 : decode cX6_addDelivered 19 = .ok (.aload_n 0, 1) := by decide +kernel
theorem dX6_addDelivered_20 : decode cX6_addDelivered 20 = .ok (.iload_n 1, 1) := by decide +kernel
theorem dX6_addDelivered_21 : decode cX6_addDelivered 21 = .ok (.iload_n 2, 1) := by decide +kernel
theorem dX6_addDelivered_22 : decode cX6_addDelivered 22 = .ok (.invokevirtual 100, 3) := by decide +kernel
theorem dX6_addDelivered_25 : decode cX6_addDelivered 25 = .ok (.istore 4, 2) := by decide +kernel
theorem dX6_addDelivered_27 : decode cX6_addDelivered 27 = .ok (.iload_n 3, 1) := by decide +kernel
theorem dX6_addDelivered_28 : decode cX6_addDelivered 28 = .ok (.iload 4, 2) := by decide +kernel
theorem dX6_addDelivered_30 : decode cX6_addDelivered 30 = .ok (.if_icmp .gt 26, 3) := by decide +kernel
theorem dX6_addDelivered_33 : decode cX6_addDelivered 33 = .ok (.iload_n 3, 1) := by decide +kernel
theorem dX6_addDelivered_34 : decode cX6_addDelivered 34 = .ok (.sipush 7200, 3) := by decide +kernel
theorem dX6_addDelivered_37 : decode cX6_addDelivered 37 = .ok (.if_icmp .gt 19, 3) := by decide +kernel
theorem dX6_addDelivered_40 : decode cX6_addDelivered 40 = .ok (.aload_n 0, 1) := by decide +kernel
theorem dX6_addDelivered_41 : decode cX6_addDelivered 41 = .ok (.getfield 36, 3) := by decide +kernel
theorem dX6_addDelivered_44 : decode cX6_addDelivered 44 = .ok (.iload_n 3, 1) := by decide +kernel
theorem dX6_addDelivered_45 : decode cX6_addDelivered 45 = .ok (.dup2, 1) := by decide +kernel
theorem dX6_addDelivered_46 : decode cX6_addDelivered 46 = .ok (.iaload, 1) := by decide +kernel
theorem dX6_addDelivered_47 : decode cX6_addDelivered 47 = .ok (.iload_n 2, 1) := by decide +kernel
theorem dX6_addDelivered_48 : decode cX6_addDelivered 48 = .ok (.iadd, 1) := by decide +kernel
theorem dX6_addDelivered_49 : decode cX6_addDelivered 49 = .ok (.iastore, 1) := by decide +kernel
theorem dX6_addDelivered_50 : decode cX6_addDelivered 50 = .ok (.iinc 3 1, 3) := by decide +kernel
theorem dX6_addDelivered_53 : decode cX6_addDelivered 53 = .ok (.goto (-26), 3) := by decide +kernel
theorem dX6_addDelivered_56 : decode cX6_addDelivered 56 = .ok (.iinc 2 (-1), 3) := by decide +kernel
theorem dX6_addDelivered_59 : decode cX6_addDelivered 59 = .ok (.goto (-51), 3) := by decide +kernel
theorem dX6_addDelivered_62 : decode cX6_addDelivered 62 = .ok (.return_, 1) := by decide +kernel
theorem dX6_layOutArray_0 : decode cX6_layOutArray 0 = .ok (.iconst 0, 1) := by decide +kernel
theorem dX6_layOutArray_1 : decode cX6_layOutArray 1 = .ok (.istore_n 1, 1) := by decide +kernel
theorem dX6_layOutArray_2 : decode cX6_layOutArray 2 = .ok (.iload_n 1, 1) := by decide +kernel
theorem dX6_layOutArray_3 : decode cX6_layOutArray 3 = .ok (.sipush 7200, 3) := by decide +kernel
theorem dX6_layOutArray_6 : decode cX6_layOutArray 6 = .ok (.if_icmp .gt 16, 3) := by decide +kernel
theorem dX6_layOutArray_9 : decode cX6_layOutArray 9 = .ok (.aload_n 0, 1) := by decide +kernel
theorem dX6_layOutArray_10 : decode cX6_layOutArray 10 = .ok (.getfield 36, 3) := by decide +kernel
theorem dX6_layOutArray_13 : decode cX6_layOutArray 13 = .ok (.iload_n 1, 1) := by decide +kernel
theorem dX6_layOutArray_14 : decode cX6_layOutArray 14 = .ok (.iconst 0, 1) := by decide +kernel
theorem dX6_layOutArray_15 : decode cX6_layOutArray 15 = .ok (.iastore, 1) := by decide +kernel
theorem dX6_layOutArray_16 : decode cX6_layOutArray 16 = .ok (.iinc 1 1, 3) := by decide +kernel
theorem dX6_layOutArray_19 : decode cX6_layOutArray 19 = .ok (.goto (-17), 3) := by decide +kernel
theorem dX6_layOutArray_22 : decode cX6_layOutArray 22 = .ok (.iconst 0, 1) := by decide +kernel
theorem dX6_layOutArray_23 : decode cX6_layOutArray 23 = .ok (.istore_n 1, 1) := by decide +kernel
theorem dX6_layOutArray_24 : decode cX6_layOutArray 24 = .ok (.iload_n 1, 1) := by decide +kernel
theorem dX6_layOutArray_25 : decode cX6_layOutArray 25 = .ok (.aload_n 0, 1) := by decide +kernel
theorem dX6_layOutArray_26 : decode cX6_layOutArray 26 = .ok (.getfield 59, 3) := by decide +kernel
theorem dX6_layOutArray_29 : decode cX6_layOutArray 29 = .ok (.if_icmp .ge 14, 3) := by decide +kernel
theorem dX6_layOutArray_32 : decode cX6_layOutArray 32 = .ok (.aload_n 0, 1) := by decide +kernel
theorem dX6_layOutArray_33 : decode cX6_layOutArray 33 = .ok (.iload_n 1, 1) := by decide +kernel
theorem dX6_layOutArray_34 : decode cX6_layOutArray 34 = .ok (.invokevirtual 125, 3) := by decide +kernel
theorem dX6_layOutArray_37 : decode cX6_layOutArray 37 = .ok (.iinc 1 1, 3) := by decide +kernel
theorem dX6_layOutArray_40 : decode cX6_layOutArray 40 = .ok (.goto (-16), 3) := by decide +kernel
theorem dX6_layOutArray_43 : decode cX6_layOutArray 43 = .ok (.return_, 1) := by decide +kernel
theorem dX6_arrayCurrent_0 : decode cX6_arrayCurrent 0 = .ok (.iload_n 1, 1) := by decide +kernel
theorem dX6_arrayCurrent_1 : decode cX6_arrayCurrent 1 = .ok (.iconst 0, 1) := by decide +kernel
theorem dX6_arrayCurrent_2 : decode cX6_arrayCurrent 2 = .ok (.sipush 7200, 3) := by decide +kernel
theorem dX6_arrayCurrent_5 : decode cX6_arrayCurrent 5 = .ok (.invokestatic 55, 3) := by decide +kernel
theorem dX6_arrayCurrent_8 : decode cX6_arrayCurrent 8 = .ok (.ifCond .ne 7, 3) := by decide +kernel
theorem dX6_arrayCurrent_11 : decode cX6_arrayCurrent 11 = .ok (.sipush (-1003), 3) := by decide +kernel
theorem dX6_arrayCurrent_14 : decode cX6_arrayCurrent 14 = .ok (.ireturn, 1) := by decide +kernel
theorem dX6_arrayCurrent_15 : decode cX6_arrayCurrent 15 = .ok (.aload_n 0, 1) := by decide +kernel
theorem dX6_arrayCurrent_16 : decode cX6_arrayCurrent 16 = .ok (.invokevirtual 128, 3) := by decide +kernel
theorem dX6_arrayCurrent_19 : decode cX6_arrayCurrent 19 = .ok (.aload_n 0, 1) := by decide +kernel
theorem dX6_arrayCurrent_20 : decode cX6_arrayCurrent 20 = .ok (.getfield 36, 3) := by decide +kernel
theorem dX6_arrayCurrent_23 : decode cX6_arrayCurrent 23 = .ok (.iload_n 1, 1) := by decide +kernel
theorem dX6_arrayCurrent_24 : decode cX6_arrayCurrent 24 = .ok (.iaload, 1) := by decide +kernel
theorem dX6_arrayCurrent_25 : decode cX6_arrayCurrent 25 = .ok (.ireturn, 1) := by decide +kernel
theorem dX6_bestArrayVoltage_0 : decode cX6_bestArrayVoltage 0 = .ok (.aload_n 0, 1) := by decide +kernel
theorem dX6_bestArrayVoltage_1 : decode cX6_bestArrayVoltage 1 = .ok (.invokevirtual 128, 3) := by decide +kernel
theorem dX6_bestArrayVoltage_4 : decode cX6_bestArrayVoltage 4 = .ok (.iconst 0, 1) := by decide +kernel
theorem dX6_bestArrayVoltage_5 : decode cX6_bestArrayVoltage 5 = .ok (.istore_n 1, 1) := by decide +kernel
theorem dX6_bestArrayVoltage_6 : decode cX6_bestArrayVoltage 6 = .ok (.iconst 1, 1) := by decide +kernel
theorem dX6_bestArrayVoltage_7 : decode cX6_bestArrayVoltage 7 = .ok (.istore_n 2, 1) := by decide +kernel
theorem dX6_bestArrayVoltage_8 : decode cX6_bestArrayVoltage 8 = .ok (.iload_n 2, 1) := by decide +kernel
theorem dX6_bestArrayVoltage_9 : decode cX6_bestArrayVoltage 9 = .ok (.sipush 7200, 3) := by decide +kernel
theorem dX6_bestArrayVoltage_12 : decode cX6_bestArrayVoltage 12 = .ok (.if_icmp .gt 39, 3) := by decide +kernel
theorem dX6_bestArrayVoltage_15 : decode cX6_bestArrayVoltage 15 = .ok (.iload_n 2, 1) := by decide +kernel
theorem dX6_bestArrayVoltage_16 : decode cX6_bestArrayVoltage 16 = .ok (.i2l, 1) := by decide +kernel
theorem dX6_bestArrayVoltage_17 : decode cX6_bestArrayVoltage 17 = .ok (.aload_n 0, 1) := by decide +kernel
theorem dX6_bestArrayVoltage_18 : decode cX6_bestArrayVoltage 18 = .ok (.getfield 36, 3) := by decide +kernel
theorem dX6_bestArrayVoltage_21 : decode cX6_bestArrayVoltage 21 = .ok (.iload_n 2, 1) := by decide +kernel
theorem dX6_bestArrayVoltage_22 : decode cX6_bestArrayVoltage 22 = .ok (.iaload, 1) := by decide +kernel
theorem dX6_bestArrayVoltage_23 : decode cX6_bestArrayVoltage 23 = .ok (.i2l, 1) := by decide +kernel
theorem dX6_bestArrayVoltage_24 : decode cX6_bestArrayVoltage 24 = .ok (.lmul, 1) := by decide +kernel
theorem dX6_bestArrayVoltage_25 : decode cX6_bestArrayVoltage 25 = .ok (.iload_n 1, 1) := by decide +kernel
theorem dX6_bestArrayVoltage_26 : decode cX6_bestArrayVoltage 26 = .ok (.i2l, 1) := by decide +kernel
theorem dX6_bestArrayVoltage_27 : decode cX6_bestArrayVoltage 27 = .ok (.aload_n 0, 1) := by decide +kernel
theorem dX6_bestArrayVoltage_28 : decode cX6_bestArrayVoltage 28 = .ok (.getfield 36, 3) := by decide +kernel
theorem dX6_bestArrayVoltage_31 : decode cX6_bestArrayVoltage 31 = .ok (.iload_n 1, 1) := by decide +kernel
theorem dX6_bestArrayVoltage_32 : decode cX6_bestArrayVoltage 32 = .ok (.iaload, 1) := by decide +kernel
theorem dX6_bestArrayVoltage_33 : decode cX6_bestArrayVoltage 33 = .ok (.i2l, 1) := by decide +kernel
theorem dX6_bestArrayVoltage_34 : decode cX6_bestArrayVoltage 34 = .ok (.lmul, 1) := by decide +kernel
theorem dX6_bestArrayVoltage_35 : decode cX6_bestArrayVoltage 35 = .ok (.lcmp, 1) := by decide +kernel
theorem dX6_bestArrayVoltage_36 : decode cX6_bestArrayVoltage 36 = .ok (.ifCond .le 7, 3) := by decide +kernel
theorem dX6_bestArrayVoltage_39 : decode cX6_bestArrayVoltage 39 = .ok (.iload_n 2, 1) := by decide +kernel
theorem dX6_bestArrayVoltage_40 : decode cX6_bestArrayVoltage 40 = .ok (.goto 4, 3) := by decide +kernel
theorem dX6_bestArrayVoltage_43 : decode cX6_bestArrayVoltage 43 = .ok (.iload_n 1, 1) := by decide +kernel
theorem dX6_bestArrayVoltage_44 : decode cX6_bestArrayVoltage 44 = .ok (.istore_n 1, 1) := by decide +kernel
theorem dX6_bestArrayVoltage_45 : decode cX6_bestArrayVoltage 45 = .ok (.iinc 2 1, 3) := by decide +kernel
theorem dX6_bestArrayVoltage_48 : decode cX6_bestArrayVoltage 48 = .ok (.goto (-40), 3) := by decide +kernel
theorem dX6_bestArrayVoltage_51 : decode cX6_bestArrayVoltage 51 = .ok (.iload_n 1, 1) := by decide +kernel
theorem dX6_bestArrayVoltage_52 : decode cX6_bestArrayVoltage 52 = .ok (.ireturn, 1) := by decide +kernel
theorem dX6_totalNow_0 : decode cX6_totalNow 0 = .ok (.lconst 0, 1) := by decide +kernel
theorem dX6_totalNow_1 : decode cX6_totalNow 1 = .ok (.lstore_n 1, 1) := by decide +kernel
theorem dX6_totalNow_2 : decode cX6_totalNow 2 = .ok (.iconst 0, 1) := by decide +kernel
theorem dX6_totalNow_3 : decode cX6_totalNow 3 = .ok (.istore_n 3, 1) := by decide +kernel
theorem dX6_totalNow_4 : decode cX6_totalNow 4 = .ok (.iload_n 3, 1) := by decide +kernel
theorem dX6_totalNow_5 : decode cX6_totalNow 5 = .ok (.aload_n 0, 1) := by decide +kernel
theorem dX6_totalNow_6 : decode cX6_totalNow 6 = .ok (.getfield 59, 3) := by decide +kernel
theorem dX6_totalNow_9 : decode cX6_totalNow 9 = .ok (.if_icmp .ge 17, 3) := by decide +kernel
theorem dX6_totalNow_12 : decode cX6_totalNow 12 = .ok (.lload_n 1, 1) := by decide +kernel
theorem dX6_totalNow_13 : decode cX6_totalNow 13 = .ok (.aload_n 0, 1) := by decide +kernel
theorem dX6_totalNow_14 : decode cX6_totalNow 14 = .ok (.iload_n 3, 1) := by decide +kernel
theorem dX6_totalNow_15 : decode cX6_totalNow 15 = .ok (.invokevirtual 122, 3) := by decide +kernel
theorem dX6_totalNow_18 : decode cX6_totalNow 18 = .ok (.ladd, 1) := by decide +kernel
theorem dX6_totalNow_19 : decode cX6_totalNow 19 = .ok (.lstore_n 1, 1) := by decide +kernel
theorem dX6_totalNow_20 : decode cX6_totalNow 20 = .ok (.iinc 3 1, 3) := by decide +kernel
theorem dX6_totalNow_23 : decode cX6_totalNow 23 = .ok (.goto (-19), 3) := by decide +kernel
theorem dX6_totalNow_26 : decode cX6_totalNow 26 = .ok (.lload_n 1, 1) := by decide +kernel
theorem dX6_totalNow_27 : decode cX6_totalNow 27 = .ok (.lreturn, 1) := by decide +kernel
theorem dX6_totalBestPower_0 : decode cX6_totalBestPower 0 = .ok (.aload_n 0, 1) := by decide +kernel
theorem dX6_totalBestPower_1 : decode cX6_totalBestPower 1 = .ok (.invokevirtual 131, 3) := by decide +kernel
theorem dX6_totalBestPower_4 : decode cX6_totalBestPower 4 = .ok (.lreturn, 1) := by decide +kernel
theorem dX6_mismatchLoss_0 : decode cX6_mismatchLoss 0 = .ok (.lconst 0, 1) := by decide +kernel
theorem dX6_mismatchLoss_1 : decode cX6_mismatchLoss 1 = .ok (.lstore_n 1, 1) := by decide +kernel
theorem dX6_mismatchLoss_2 : decode cX6_mismatchLoss 2 = .ok (.iconst 0, 1) := by decide +kernel
theorem dX6_mismatchLoss_3 : decode cX6_mismatchLoss 3 = .ok (.istore_n 3, 1) := by decide +kernel
theorem dX6_mismatchLoss_4 : decode cX6_mismatchLoss 4 = .ok (.iload_n 3, 1) := by decide +kernel
theorem dX6_mismatchLoss_5 : decode cX6_mismatchLoss 5 = .ok (.aload_n 0, 1) := by decide +kernel
theorem dX6_mismatchLoss_6 : decode cX6_mismatchLoss 6 = .ok (.getfield 52, 3) := by decide +kernel
theorem dX6_mismatchLoss_9 : decode cX6_mismatchLoss 9 = .ok (.if_icmp .ge 17, 3) := by decide +kernel
theorem dX6_mismatchLoss_12 : decode cX6_mismatchLoss 12 = .ok (.lload_n 1, 1) := by decide +kernel
theorem dX6_mismatchLoss_13 : decode cX6_mismatchLoss 13 = .ok (.aload_n 0, 1) := by decide +kernel
theorem dX6_mismatchLoss_14 : decode cX6_mismatchLoss 14 = .ok (.iload_n 3, 1) := by decide +kernel
theorem dX6_mismatchLoss_15 : decode cX6_mismatchLoss 15 = .ok (.invokevirtual 94, 3) := by decide +kernel
theorem dX6_mismatchLoss_18 : decode cX6_mismatchLoss 18 = .ok (.ladd, 1) := by decide +kernel
theorem dX6_mismatchLoss_19 : decode cX6_mismatchLoss 19 = .ok (.lstore_n 1, 1) := by decide +kernel
theorem dX6_mismatchLoss_20 : decode cX6_mismatchLoss 20 = .ok (.iinc 3 1, 3) := by decide +kernel
theorem dX6_mismatchLoss_23 : decode cX6_mismatchLoss 23 = .ok (.goto (-19), 3) := by decide +kernel
theorem dX6_mismatchLoss_26 : decode cX6_mismatchLoss 26 = .ok (.lload_n 1, 1) := by decide +kernel
theorem dX6_mismatchLoss_27 : decode cX6_mismatchLoss 27 = .ok (.aload_n 0, 1) := by decide +kernel
theorem dX6_mismatchLoss_28 : decode cX6_mismatchLoss 28 = .ok (.invokevirtual 131, 3) := by decide +kernel
theorem dX6_mismatchLoss_31 : decode cX6_mismatchLoss 31 = .ok (.lsub, 1) := by decide +kernel
theorem dX6_mismatchLoss_32 : decode cX6_mismatchLoss 32 = .ok (.lreturn, 1) := by decide +kernel
theorem dX6_findBestSwap_0 : decode cX6_findBestSwap 0 = .ok (.aload_n 0, 1) := by decide +kernel
theorem dX6_findBestSwap_1 : decode cX6_findBestSwap 1 = .ok (.lconst 0, 1) := by decide +kernel
theorem dX6_findBestSwap_2 : decode cX6_findBestSwap 2 = .ok (.putfield 135, 3) := by decide +kernel
theorem dX6_findBestSwap_5 : decode cX6_findBestSwap 5 = .ok (.aload_n 0, 1) := by decide +kernel
theorem dX6_findBestSwap_6 : decode cX6_findBestSwap 6 = .ok (.sipush (-1005), 3) := by decide +kernel
theorem dX6_findBestSwap_9 : decode cX6_findBestSwap 9 = .ok (.putfield 139, 3) := by decide +kernel
theorem dX6_findBestSwap_12 : decode cX6_findBestSwap 12 = .ok (.aload_n 0, 1) := by decide +kernel
theorem dX6_findBestSwap_13 : decode cX6_findBestSwap 13 = .ok (.sipush (-1005), 3) := by decide +kernel
theorem dX6_findBestSwap_16 : decode cX6_findBestSwap 16 = .ok (.putfield 142, 3) := by decide +kernel
theorem dX6_findBestSwap_19 : decode cX6_findBestSwap 19 = .ok (.iconst 0, 1) := by decide +kernel
theorem dX6_findBestSwap_20 : decode cX6_findBestSwap 20 = .ok (.istore_n 1, 1) := by decide +kernel
theorem dX6_findBestSwap_21 : decode cX6_findBestSwap 21 = .ok (.iload_n 1, 1) := by decide +kernel
theorem dX6_findBestSwap_22 : decode cX6_findBestSwap 22 = .ok (.aload_n 0, 1) := by decide +kernel
theorem dX6_findBestSwap_23 : decode cX6_findBestSwap 23 = .ok (.getfield 59, 3) := by decide +kernel
theorem dX6_findBestSwap_26 : decode cX6_findBestSwap 26 = .ok (.if_icmp .ge 20, 3) := by decide +kernel
theorem dX6_findBestSwap_29 : decode cX6_findBestSwap 29 = .ok (.aload_n 0, 1) := by decide +kernel
theorem dX6_findBestSwap_30 : decode cX6_findBestSwap 30 = .ok (.getfield 39, 3) := by decide +kernel
theorem dX6_findBestSwap_33 : decode cX6_findBestSwap 33 = .ok (.iload_n 1, 1) := by decide +kernel
theorem dX6_findBestSwap_34 : decode cX6_findBestSwap 34 = .ok (.aload_n 0, 1) := by decide +kernel
theorem dX6_findBestSwap_35 : decode cX6_findBestSwap 35 = .ok (.iload_n 1, 1) := by decide +kernel
theorem dX6_findBestSwap_36 : decode cX6_findBestSwap 36 = .ok (.invokevirtual 122, 3) := by decide +kernel
theorem dX6_findBestSwap_39 : decode cX6_findBestSwap 39 = .ok (.lastore, 1) := by decide +kernel
theorem dX6_findBestSwap_40 : decode cX6_findBestSwap 40 = .ok (.iinc 1 1, 3) := by decide +kernel
theorem dX6_findBestSwap_43 : decode cX6_findBestSwap 43 = .ok (.goto (-22), 3) := by decide +kernel
theorem dX6_findBestSwap_46 : decode cX6_findBestSwap 46 = .ok (.iconst 0, 1) := by decide +kernel
theorem dX6_findBestSwap_47 : decode cX6_findBestSwap 47 = .ok (.istore_n 1, 1) := by decide +kernel
theorem dX6_findBestSwap_48 : decode cX6_findBestSwap 48 = .ok (.iload_n 1, 1) := by decide +kernel
theorem dX6_findBestSwap_49 : decode cX6_findBestSwap 49 = .ok (.aload_n 0, 1) := by decide +kernel
theorem dX6_findBestSwap_50 : decode cX6_findBestSwap 50 = .ok (.getfield 52, 3) := by decide +kernel
theorem dX6_findBestSwap_53 : decode cX6_findBestSwap 53 = .ok (.if_icmp .ge 160, 3) := by decide +kernel
theorem dX6_findBestSwap_56 : decode cX6_findBestSwap 56 = .ok (.iload_n 1, 1) := by decide +kernel
theorem dX6_findBestSwap_57 : decode cX6_findBestSwap 57 = .ok (.iconst 1, 1) := by decide +kernel
theorem dX6_findBestSwap_58 : decode cX6_findBestSwap 58 = .ok (.iadd, 1) := by decide +kernel
theorem dX6_findBestSwap_59 : decode cX6_findBestSwap 59 = .ok (.istore_n 2, 1) := by decide +kernel
theorem dX6_findBestSwap_60 : decode cX6_findBestSwap 60 = .ok (.iload_n 2, 1) := by decide +kernel
theorem dX6_findBestSwap_61 : decode cX6_findBestSwap 61 = .ok (.aload_n 0, 1) := by decide +kernel
theorem dX6_findBestSwap_62 : decode cX6_findBestSwap 62 = .ok (.getfield 52, 3) := by decide +kernel
theorem dX6_findBestSwap_65 : decode cX6_findBestSwap 65 = .ok (.if_icmp .ge 142, 3) := by decide +kernel
theorem dX6_findBestSwap_68 : decode cX6_findBestSwap 68 = .ok (.aload_n 0, 1) := by decide +kernel
theorem dX6_findBestSwap_69 : decode cX6_findBestSwap 69 = .ok (.iload_n 1, 1) := by decide +kernel
theorem dX6_findBestSwap_70 : decode cX6_findBestSwap 70 = .ok (.invokevirtual 73, 3) := by decide +kernel
theorem dX6_findBestSwap_73 : decode cX6_findBestSwap 73 = .ok (.bipush 12, 2) := by decide +kernel
theorem dX6_findBestSwap_75 : decode cX6_findBestSwap 75 = .ok (.idiv, 1) := by decide +kernel
theorem dX6_findBestSwap_76 : decode cX6_findBestSwap 76 = .ok (.istore_n 3, 1) := by decide +kernel
theorem dX6_findBestSwap_77 : decode cX6_findBestSwap 77 = .ok (.aload_n 0, 1) := by decide +kernel
theorem dX6_findBestSwap_78 : decode cX6_findBestSwap 78 = .ok (.iload_n 2, 1) := by decide +kernel
theorem dX6_findBestSwap_79 : decode cX6_findBestSwap 79 = .ok (.invokevirtual 73, 3) := by decide +kernel
theorem dX6_findBestSwap_82 : decode cX6_findBestSwap 82 = .ok (.bipush 12, 2) := by decide +kernel
theorem dX6_findBestSwap_84 : decode cX6_findBestSwap 84 = .ok (.idiv, 1) := by decide +kernel
theorem dX6_findBestSwap_85 : decode cX6_findBestSwap 85 = .ok (.istore 4, 2) := by decide +kernel
theorem dX6_findBestSwap_87 : decode cX6_findBestSwap 87 = .ok (.iload_n 3, 1) := by decide +kernel
theorem dX6_findBestSwap_88 : decode cX6_findBestSwap 88 = .ok (.iload 4, 2) := by decide +kernel
theorem dX6_findBestSwap_90 : decode cX6_findBestSwap 90 = .ok (.if_icmp .eq 111, 3) := by decide +kernel
theorem dX6_findBestSwap_93 : decode cX6_findBestSwap 93 = .ok (.aload_n 0, 1) := by decide +kernel
theorem dX6_findBestSwap_94 : decode cX6_findBestSwap 94 = .ok (.iload_n 1, 1) := by decide +kernel
theorem dX6_findBestSwap_95 : decode cX6_findBestSwap 95 = .ok (.iload_n 2, 1) := by decide +kernel
theorem dX6_findBestSwap_96 : decode cX6_findBestSwap 96 = .ok (.invokevirtual 81, 3) := by decide +kernel
theorem dX6_findBestSwap_99 : decode cX6_findBestSwap 99 = .ok (.aload_n 0, 1) := by decide +kernel
theorem dX6_findBestSwap_100 : decode cX6_findBestSwap 100 = .ok (.iload_n 3, 1) := by decide +kernel
theorem dX6_findBestSwap_101 : decode cX6_findBestSwap 101 = .ok (.invokevirtual 122, 3) := by decide +kernel
theorem dX6_findBestSwap_104 : decode cX6_findBestSwap 104 = .ok (.aload_n 0, 1) := by decide +kernel
theorem dX6_findBestSwap_105 : decode cX6_findBestSwap 105 = .ok (.iload 4, 2) := by decide +kernel
theorem dX6_findBestSwap_107 : decode cX6_findBestSwap 107 = .ok (.invokevirtual 122, 3) := by decide +kernel
theorem dX6_findBestSwap_110 : decode cX6_findBestSwap 110 = .ok (.ladd, 1) := by decide +kernel
theorem dX6_findBestSwap_111 : decode cX6_findBestSwap 111 = .ok (.aload_n 0, 1) := by decide +kernel
theorem dX6_findBestSwap_112 : decode cX6_findBestSwap 112 = .ok (.getfield 39, 3) := by decide +kernel
theorem dX6_findBestSwap_115 : decode cX6_findBestSwap 115 = .ok (.iload_n 3, 1) := by decide +kernel
theorem dX6_findBestSwap_116 : decode cX6_findBestSwap 116 = .ok (.laload, 1) := by decide +kernel
theorem dX6_findBestSwap_117 : decode cX6_findBestSwap 117 = .ok (.lsub, 1) := by decide +kernel
theorem dX6_findBestSwap_118 : decode cX6_findBestSwap 118 = .ok (.aload_n 0, 1) := by decide +kernel
theorem dX6_findBestSwap_119 : decode cX6_findBestSwap 119 = .ok (.getfield 39, 3) := by decide +kernel
theorem dX6_findBestSwap_122 : decode cX6_findBestSwap 122 = .ok (.iload 4, 2) := by decide +kernel
theorem dX6_findBestSwap_124 : decode cX6_findBestSwap 124 = .ok (.laload, 1) := by decide +kernel
theorem dX6_findBestSwap_125 : decode cX6_findBestSwap 125 = .ok (.lsub, 1) := by decide +kernel
theorem dX6_findBestSwap_126 : decode cX6_findBestSwap 126 = .ok (.lstore 5, 2) := by decide +kernel
theorem dX6_findBestSwap_128 : decode cX6_findBestSwap 128 = .ok (.aload_n 0, 1) := by decide +kernel
theorem dX6_findBestSwap_129 : decode cX6_findBestSwap 129 = .ok (.iload_n 1, 1) := by decide +kernel
theorem dX6_findBestSwap_130 : decode cX6_findBestSwap 130 = .ok (.iload_n 2, 1) := by decide +kernel
theorem dX6_findBestSwap_131 : decode cX6_findBestSwap 131 = .ok (.invokevirtual 81, 3) := by decide +kernel
theorem dX6_findBestSwap_134 : decode cX6_findBestSwap 134 = .ok (.aload_n 0, 1) := by decide +kernel
theorem dX6_findBestSwap_135 : decode cX6_findBestSwap 135 = .ok (.lload 5, 2) := by decide +kernel
theorem dX6_findBestSwap_137 : decode cX6_findBestSwap 137 = .ok (.aload_n 0, 1) := by decide +kernel
theorem dX6_findBestSwap_138 : decode cX6_findBestSwap 138 = .ok (.getfield 135, 3) := by decide +kernel
theorem dX6_findBestSwap_141 : decode cX6_findBestSwap 141 = .ok (.lcmp, 1) := by decide +kernel
theorem dX6_findBestSwap_142 : decode cX6_findBestSwap 142 = .ok (.ifCond .le 7, 3) := by decide +kernel
theorem dX6_findBestSwap_145 : decode cX6_findBestSwap 145 = .ok (.iload_n 1, 1) := by decide +kernel
theorem dX6_findBestSwap_146 : decode cX6_findBestSwap 146 = .ok (.goto 7, 3) := by decide +kernel
theorem dX6_findBestSwap_149 : decode cX6_findBestSwap 149 = .ok (.aload_n 0, 1) := by decide +kernel
theorem dX6_findBestSwap_150 : decode cX6_findBestSwap 150 = .ok (.getfield 139, 3) := by decide +kernel
theorem dX6_findBestSwap_153 : decode cX6_findBestSwap 153 = .ok (.putfield 139, 3) := by decide +kernel
theorem dX6_findBestSwap_156 : decode cX6_findBestSwap 156 = .ok (.aload_n 0, 1) := by decide +kernel
theorem dX6_findBestSwap_157 : decode cX6_findBestSwap 157 = .ok (.lload 5, 2) := by decide +kernel
theorem dX6_findBestSwap_159 : decode cX6_findBestSwap 159 = .ok (.aload_n 0, 1) := by decide +kernel
theorem dX6_findBestSwap_160 : decode cX6_findBestSwap 160 = .ok (.getfield 135, 3) := by decide +kernel
theorem dX6_findBestSwap_163 : decode cX6_findBestSwap 163 = .ok (.lcmp, 1) := by decide +kernel
theorem dX6_findBestSwap_164 : decode cX6_findBestSwap 164 = .ok (.ifCond .le 7, 3) := by decide +kernel
theorem dX6_findBestSwap_167 : decode cX6_findBestSwap 167 = .ok (.iload_n 2, 1) := by decide +kernel
theorem dX6_findBestSwap_168 : decode cX6_findBestSwap 168 = .ok (.goto 7, 3) := by decide +kernel
theorem dX6_findBestSwap_171 : decode cX6_findBestSwap 171 = .ok (.aload_n 0, 1) := by decide +kernel
theorem dX6_findBestSwap_172 : decode cX6_findBestSwap 172 = .ok (.getfield 142, 3) := by decide +kernel
theorem dX6_findBestSwap_175 : decode cX6_findBestSwap 175 = .ok (.putfield 142, 3) := by decide +kernel
theorem dX6_findBestSwap_178 : decode cX6_findBestSwap 178 = .ok (.aload_n 0, 1) := by decide +kernel
theorem dX6_findBestSwap_179 : decode cX6_findBestSwap 179 = .ok (.lload 5, 2) := by decide +kernel
theorem dX6_findBestSwap_181 : decode cX6_findBestSwap 181 = .ok (.aload_n 0, 1) := by decide +kernel
theorem dX6_findBestSwap_182 : decode cX6_findBestSwap 182 = .ok (.getfield 135, 3) := by decide +kernel
theorem dX6_findBestSwap_185 : decode cX6_findBestSwap 185 = .ok (.lcmp, 1) := by decide +kernel
theorem dX6_findBestSwap_186 : decode cX6_findBestSwap 186 = .ok (.ifCond .le 8, 3) := by decide +kernel
theorem dX6_findBestSwap_189 : decode cX6_findBestSwap 189 = .ok (.lload 5, 2) := by decide +kernel
theorem dX6_findBestSwap_191 : decode cX6_findBestSwap 191 = .ok (.goto 7, 3) := by decide +kernel
theorem dX6_findBestSwap_194 : decode cX6_findBestSwap 194 = .ok (.aload_n 0, 1) := by decide +kernel
theorem dX6_findBestSwap_195 : decode cX6_findBestSwap 195 = .ok (.getfield 135, 3) := by decide +kernel
theorem dX6_findBestSwap_198 : decode cX6_findBestSwap 198 = .ok (.putfield 135, 3) := by decide +kernel
theorem dX6_findBestSwap_201 : decode cX6_findBestSwap 201 = .ok (.iinc 2 1, 3) := by decide +kernel
theorem dX6_findBestSwap_204 : decode cX6_findBestSwap 204 = .ok (.goto (-144), 3) := by decide +kernel
theorem dX6_findBestSwap_207 : decode cX6_findBestSwap 207 = .ok (.iinc 1 1, 3) := by decide +kernel
theorem dX6_findBestSwap_210 : decode cX6_findBestSwap 210 = .ok (.goto (-162), 3) := by decide +kernel
theorem dX6_findBestSwap_213 : decode cX6_findBestSwap 213 = .ok (.return_, 1) := by decide +kernel
theorem dX6_bestSwapGain_0 : decode cX6_bestSwapGain 0 = .ok (.aload_n 0, 1) := by decide +kernel
theorem dX6_bestSwapGain_1 : decode cX6_bestSwapGain 1 = .ok (.invokevirtual 145, 3) := by decide +kernel
theorem dX6_bestSwapGain_4 : decode cX6_bestSwapGain 4 = .ok (.aload_n 0, 1) := by decide +kernel
theorem dX6_bestSwapGain_5 : decode cX6_bestSwapGain 5 = .ok (.getfield 135, 3) := by decide +kernel
theorem dX6_bestSwapGain_8 : decode cX6_bestSwapGain 8 = .ok (.lreturn, 1) := by decide +kernel
theorem dX6_bestSwapLower_0 : decode cX6_bestSwapLower 0 = .ok (.aload_n 0, 1) := by decide +kernel
theorem dX6_bestSwapLower_1 : decode cX6_bestSwapLower 1 = .ok (.invokevirtual 145, 3) := by decide +kernel
theorem dX6_bestSwapLower_4 : decode cX6_bestSwapLower 4 = .ok (.aload_n 0, 1) := by decide +kernel
theorem dX6_bestSwapLower_5 : decode cX6_bestSwapLower 5 = .ok (.getfield 139, 3) := by decide +kernel
theorem dX6_bestSwapLower_8 : decode cX6_bestSwapLower 8 = .ok (.ireturn, 1) := by decide +kernel
theorem dX6_bestSwapHigher_0 : decode cX6_bestSwapHigher 0 = .ok (.aload_n 0, 1) := by decide +kernel
theorem dX6_bestSwapHigher_1 : decode cX6_bestSwapHigher 1 = .ok (.invokevirtual 145, 3) := by decide +kernel
theorem dX6_bestSwapHigher_4 : decode cX6_bestSwapHigher 4 = .ok (.aload_n 0, 1) := by decide +kernel
theorem dX6_bestSwapHigher_5 : decode cX6_bestSwapHigher 5 = .ok (.getfield 142, 3) := by decide +kernel
theorem dX6_bestSwapHigher_8 : decode cX6_bestSwapHigher 8 = .ok (.ireturn, 1) := by decide +kernel
theorem dX6_regroup_0 : decode cX6_regroup 0 = .ok (.iconst 0, 1) := by decide +kernel
theorem dX6_regroup_1 : decode cX6_regroup 1 = .ok (.istore_n 1, 1) := by decide +kernel
theorem dX6_regroup_2 : decode cX6_regroup 2 = .ok (.iload_n 1, 1) := by decide +kernel
theorem dX6_regroup_3 : decode cX6_regroup 3 = .ok (.aload_n 0, 1) := by decide +kernel
theorem dX6_regroup_4 : decode cX6_regroup 4 = .ok (.getfield 52, 3) := by decide +kernel
theorem dX6_regroup_7 : decode cX6_regroup 7 = .ok (.if_icmp .ge 76, 3) := by decide +kernel
theorem dX6_regroup_10 : decode cX6_regroup 10 = .ok (.aload_n 0, 1) := by decide +kernel
theorem dX6_regroup_11 : decode cX6_regroup 11 = .ok (.getfield 45, 3) := by decide +kernel
theorem dX6_regroup_14 : decode cX6_regroup 14 = .ok (.iload_n 1, 1) := by decide +kernel
theorem dX6_regroup_15 : decode cX6_regroup 15 = .ok (.aload_n 0, 1) := by decide +kernel
theorem dX6_regroup_16 : decode cX6_regroup 16 = .ok (.iload_n 1, 1) := by decide +kernel
theorem dX6_regroup_17 : decode cX6_regroup 17 = .ok (.invokevirtual 73, 3) := by decide +kernel
theorem dX6_regroup_20 : decode cX6_regroup 20 = .ok (.bipush 12, 2) := by decide +kernel
theorem dX6_regroup_22 : decode cX6_regroup 22 = .ok (.idiv, 1) := by decide +kernel
theorem dX6_regroup_23 : decode cX6_regroup 23 = .ok (.iastore, 1) := by decide +kernel
theorem dX6_regroup_24 : decode cX6_regroup 24 = .ok (.iload_n 1, 1) := by decide +kernel
theorem dX6_regroup_25 : decode cX6_regroup 25 = .ok (.istore_n 2, 1) := by decide +kernel
theorem dX6_regroup_26 : decode cX6_regroup 26 = .ok (.iload_n 2, 1) := by decide +kernel
theorem dX6_regroup_27 : decode cX6_regroup 27 = .ok (.ifCond .le 43, 3) := by decide +kernel
theorem dX6_regroup_30 : decode cX6_regroup 30 = .ok (.aload_n 0, 1) := by decide +kernel
theorem dX6_regroup_31 : decode cX6_regroup 31 = .ok (.aload_n 0, 1) := by decide +kernel
theorem dX6_regroup_32 : decode cX6_regroup 32 = .ok (.getfield 42, 3) := by decide +kernel
theorem dX6_regroup_35 : decode cX6_regroup 35 = .ok (.iload_n 2, 1) := by decide +kernel
theorem dX6_regroup_36 : decode cX6_regroup 36 = .ok (.iconst 1, 1) := by decide +kernel
theorem dX6_regroup_37 : decode cX6_regroup 37 = .ok (.isub, 1) := by decide +kernel
theorem dX6_regroup_38 : decode cX6_regroup 38 = .ok (.iaload, 1) := by decide +kernel
theorem dX6_regroup_39 : decode cX6_regroup 39 = .ok (.invokevirtual 84, 3) := by decide +kernel
theorem dX6_regroup_42 : decode cX6_regroup 42 = .ok (.aload_n 0, 1) := by decide +kernel
theorem dX6_regroup_43 : decode cX6_regroup 43 = .ok (.iload_n 1, 1) := by decide +kernel
theorem dX6_regroup_44 : decode cX6_regroup 44 = .ok (.invokevirtual 84, 3) := by decide +kernel
theorem dX6_regroup_47 : decode cX6_regroup 47 = .ok (.if_icmp .ge 23, 3) := by decide +kernel
theorem dX6_regroup_50 : decode cX6_regroup 50 = .ok (.aload_n 0, 1) := by decide +kernel
theorem dX6_regroup_51 : decode cX6_regroup 51 = .ok (.getfield 42, 3) := by decide +kernel
theorem dX6_regroup_54 : decode cX6_regroup 54 = .ok (.iload_n 2, 1) := by decide +kernel
theorem dX6_regroup_55 : decode cX6_regroup 55 = .ok (.aload_n 0, 1) := by decide +kernel
theorem dX6_regroup_56 : decode cX6_regroup 56 = .ok (.getfield 42, 3) := by decide +kernel
theorem dX6_regroup_59 : decode cX6_regroup 59 = .ok (.iload_n 2, 1) := by decide +kernel
theorem dX6_regroup_60 : decode cX6_regroup 60 = .ok (.iconst 1, 1) := by decide +kernel
theorem dX6_regroup_61 : decode cX6_regroup 61 = .ok (.isub, 1) := by decide +kernel
theorem dX6_regroup_62 : decode cX6_regroup 62 = .ok (.iaload, 1) := by decide +kernel
theorem dX6_regroup_63 : decode cX6_regroup 63 = .ok (.iastore, 1) := by decide +kernel
theorem dX6_regroup_64 : decode cX6_regroup 64 = .ok (.iinc 2 (-1), 3) := by decide +kernel
theorem dX6_regroup_67 : decode cX6_regroup 67 = .ok (.goto (-41), 3) := by decide +kernel
theorem dX6_regroup_70 : decode cX6_regroup 70 = .ok (.aload_n 0, 1) := by decide +kernel
theorem dX6_regroup_71 : decode cX6_regroup 71 = .ok (.getfield 42, 3) := by decide +kernel
theorem dX6_regroup_74 : decode cX6_regroup 74 = .ok (.iload_n 2, 1) := by decide +kernel
theorem dX6_regroup_75 : decode cX6_regroup 75 = .ok (.iload_n 1, 1) := by decide +kernel
theorem dX6_regroup_76 : decode cX6_regroup 76 = .ok (.iastore, 1) := by decide +kernel
theorem dX6_regroup_77 : decode cX6_regroup 77 = .ok (.iinc 1 1, 3) := by decide +kernel
theorem dX6_regroup_80 : decode cX6_regroup 80 = .ok (.goto (-78), 3) := by decide +kernel
theorem dX6_regroup_83 : decode cX6_regroup 83 = .ok (.iconst 0, 1) := by decide +kernel
theorem dX6_regroup_84 : decode cX6_regroup 84 = .ok (.istore_n 1, 1) := by decide +kernel
theorem dX6_regroup_85 : decode cX6_regroup 85 = .ok (.iconst 0, 1) := by decide +kernel
theorem dX6_regroup_86 : decode cX6_regroup 86 = .ok (.istore_n 2, 1) := by decide +kernel
theorem dX6_regroup_87 : decode cX6_regroup 87 = .ok (.iload_n 2, 1) := by decide +kernel
theorem dX6_regroup_88 : decode cX6_regroup 88 = .ok (.aload_n 0, 1) := by decide +kernel
theorem dX6_regroup_89 : decode cX6_regroup 89 = .ok (.getfield 59, 3) := by decide +kernel
theorem dX6_regroup_92 : decode cX6_regroup 92 = .ok (.if_icmp .ge 47, 3) := by decide +kernel
theorem dX6_regroup_95 : decode cX6_regroup 95 = .ok (.iconst 0, 1) := by decide +kernel
theorem dX6_regroup_96 : decode cX6_regroup 96 = .ok (.istore_n 3, 1) := by decide +kernel
theorem dX6_regroup_97 : decode cX6_regroup 97 = .ok (.iload_n 3, 1) := by decide +kernel
theorem dX6_regroup_98 : decode cX6_regroup 98 = .ok (.aload_n 0, 1) := by decide +kernel
theorem dX6_regroup_99 : decode cX6_regroup 99 = .ok (.getfield 26, 3) := by decide +kernel
theorem dX6_regroup_102 : decode cX6_regroup 102 = .ok (.iload_n 2, 1) := by decide +kernel
theorem dX6_regroup_103 : decode cX6_regroup 103 = .ok (.iaload, 1) := by decide +kernel
theorem dX6_regroup_104 : decode cX6_regroup 104 = .ok (.if_icmp .ge 29, 3) := by decide +kernel
theorem dX6_regroup_107 : decode cX6_regroup 107 = .ok (.aload_n 0, 1) := by decide +kernel
theorem dX6_regroup_108 : decode cX6_regroup 108 = .ok (.getfield 29, 3) := by decide +kernel
theorem dX6_regroup_111 : decode cX6_regroup 111 = .ok (.bipush 12, 2) := by decide +kernel
theorem dX6_regroup_113 : decode cX6_regroup 113 = .ok (.iload_n 2, 1) := by decide +kernel
theorem dX6_regroup_114 : decode cX6_regroup 114 = .ok (.imul, 1) := by decide +kernel
theorem dX6_regroup_115 : decode cX6_regroup 115 = .ok (.iload_n 3, 1) := by decide +kernel
theorem dX6_regroup_116 : decode cX6_regroup 116 = .ok (.iadd, 1) := by decide +kernel
theorem dX6_regroup_117 : decode cX6_regroup 117 = .ok (.aload_n 0, 1) := by decide +kernel
theorem dX6_regroup_118 : decode cX6_regroup 118 = .ok (.getfield 42, 3) := by decide +kernel
theorem dX6_regroup_121 : decode cX6_regroup 121 = .ok (.iload_n 1, 1) := by decide +kernel
theorem dX6_regroup_122 : decode cX6_regroup 122 = .ok (.iaload, 1) := by decide +kernel
theorem dX6_regroup_123 : decode cX6_regroup 123 = .ok (.iastore, 1) := by decide +kernel
theorem dX6_regroup_124 : decode cX6_regroup 124 = .ok (.iinc 1 1, 3) := by decide +kernel
theorem dX6_regroup_127 : decode cX6_regroup 127 = .ok (.iinc 3 1, 3) := by decide +kernel
theorem dX6_regroup_130 : decode cX6_regroup 130 = .ok (.goto (-33), 3) := by decide +kernel
theorem dX6_regroup_133 : decode cX6_regroup 133 = .ok (.iinc 2 1, 3) := by decide +kernel
theorem dX6_regroup_136 : decode cX6_regroup 136 = .ok (.goto (-49), 3) := by decide +kernel
theorem dX6_regroup_139 : decode cX6_regroup 139 = .ok (.iconst 0, 1) := by decide +kernel
theorem dX6_regroup_140 : decode cX6_regroup 140 = .ok (.istore_n 2, 1) := by decide +kernel
theorem dX6_regroup_141 : decode cX6_regroup 141 = .ok (.iconst 0, 1) := by decide +kernel
theorem dX6_regroup_142 : decode cX6_regroup 142 = .ok (.istore_n 3, 1) := by decide +kernel
theorem dX6_regroup_143 : decode cX6_regroup 143 = .ok (.iload_n 3, 1) := by decide +kernel
theorem dX6_regroup_144 : decode cX6_regroup 144 = .ok (.aload_n 0, 1) := by decide +kernel
theorem dX6_regroup_145 : decode cX6_regroup 145 = .ok (.getfield 52, 3) := by decide +kernel
theorem dX6_regroup_148 : decode cX6_regroup 148 = .ok (.if_icmp .ge 34, 3) := by decide +kernel
theorem dX6_regroup_151 : decode cX6_regroup 151 = .ok (.iload_n 2, 1) := by decide +kernel
theorem dX6_regroup_152 : decode cX6_regroup 152 = .ok (.aload_n 0, 1) := by decide +kernel
theorem dX6_regroup_153 : decode cX6_regroup 153 = .ok (.iload_n 3, 1) := by decide +kernel
theorem dX6_regroup_154 : decode cX6_regroup 154 = .ok (.invokevirtual 73, 3) := by decide +kernel
theorem dX6_regroup_157 : decode cX6_regroup 157 = .ok (.bipush 12, 2) := by decide +kernel
theorem dX6_regroup_159 : decode cX6_regroup 159 = .ok (.idiv, 1) := by decide +kernel
theorem dX6_regroup_160 : decode cX6_regroup 160 = .ok (.aload_n 0, 1) := by decide +kernel
theorem dX6_regroup_161 : decode cX6_regroup 161 = .ok (.getfield 45, 3) := by decide +kernel
theorem dX6_regroup_164 : decode cX6_regroup 164 = .ok (.iload_n 3, 1) := by decide +kernel
theorem dX6_regroup_165 : decode cX6_regroup 165 = .ok (.iaload, 1) := by decide +kernel
theorem dX6_regroup_166 : decode cX6_regroup 166 = .ok (.if_icmp .ne 7, 3) := by decide +kernel
theorem dX6_regroup_169 : decode cX6_regroup 169 = .ok (.iconst 0, 1) := by decide +kernel
theorem dX6_regroup_170 : decode cX6_regroup 170 = .ok (.goto 4, 3) := by decide +kernel
theorem dX6_regroup_173 : decode cX6_regroup 173 = .ok (.iconst 1, 1) := by decide +kernel
theorem dX6_regroup_174 : decode cX6_regroup 174 = .ok (.iadd, 1) := by decide +kernel
theorem dX6_regroup_175 : decode cX6_regroup 175 = .ok (.istore_n 2, 1) := by decide +kernel
theorem dX6_regroup_176 : decode cX6_regroup 176 = .ok (.iinc 3 1, 3) := by decide +kernel
theorem dX6_regroup_179 : decode cX6_regroup 179 = .ok (.goto (-36), 3) := by decide +kernel
theorem dX6_regroup_182 : decode cX6_regroup 182 = .ok (.iload_n 2, 1) := by decide +kernel
theorem dX6_regroup_183 : decode cX6_regroup 183 = .ok (.ireturn, 1) := by decide +kernel
