theorem dX0_init_0 : decode cX0_init 0 = .ok (.aload_n 0, 1) := by decide +kernel
theorem dX0_init_1 : decode cX0_init 1 = .ok (.invokespecial 3, 3) := by decide +kernel
theorem dX0_init_4 : decode cX0_init 4 = .ok (.return_, 1) := by decide +kernel
theorem dX0_productAt_0 : decode cX0_productAt 0 = .ok (.iload_n 1, 1) := by decide +kernel
theorem dX0_productAt_1 : decode cX0_productAt 1 = .ok (.i2l, 1) := by decide +kernel
theorem dX0_productAt_2 : decode cX0_productAt 2 = .ok (.aload_n 0, 1) := by decide +kernel
theorem dX0_productAt_3 : decode cX0_productAt 3 = .ok (.iload_n 1, 1) := by decide +kernel
theorem dX0_productAt_4 : decode cX0_productAt 4 = .ok (.invokevirtual 9, 3) := by decide +kernel
theorem dX0_productAt_7 : decode cX0_productAt 7 = .ok (.i2l, 1) := by decide +kernel
theorem dX0_productAt_8 : decode cX0_productAt 8 = .ok (.lmul, 1) := by decide +kernel
theorem dX0_productAt_9 : decode cX0_productAt 9 = .ok (.lreturn, 1) := by decide +kernel
theorem dX0_greatestProduct_0 : decode cX0_greatestProduct 0 = .ok (.aload_n 0, 1) := by decide +kernel
theorem dX0_greatestProduct_1 : decode cX0_greatestProduct 1 = .ok (.aload_n 0, 1) := by decide +kernel
theorem dX0_greatestProduct_2 : decode cX0_greatestProduct 2 = .ok (.invokevirtual 15, 3) := by decide +kernel
theorem dX0_greatestProduct_5 : decode cX0_greatestProduct 5 = .ok (.invokevirtual 19, 3) := by decide +kernel
theorem dX0_greatestProduct_8 : decode cX0_greatestProduct 8 = .ok (.lreturn, 1) := by decide +kernel
theorem dX0_bestPoint_0 : decode cX0_bestPoint 0 = .ok (.aload_n 0, 1) := by decide +kernel
theorem dX0_bestPoint_1 : decode cX0_bestPoint 1 = .ok (.invokevirtual 23, 3) := by decide +kernel
theorem dX0_bestPoint_4 : decode cX0_bestPoint 4 = .ok (.istore_n 1, 1) := by decide +kernel
theorem dX0_bestPoint_5 : decode cX0_bestPoint 5 = .ok (.iload_n 1, 1) := by decide +kernel
theorem dX0_bestPoint_6 : decode cX0_bestPoint 6 = .ok (.bipush 32, 2) := by decide +kernel
theorem dX0_bestPoint_8 : decode cX0_bestPoint 8 = .ok (.idiv, 1) := by decide +kernel
theorem dX0_bestPoint_9 : decode cX0_bestPoint 9 = .ok (.iconst 1, 1) := by decide +kernel
theorem dX0_bestPoint_10 : decode cX0_bestPoint 10 = .ok (.iadd, 1) := by decide +kernel
theorem dX0_bestPoint_11 : decode cX0_bestPoint 11 = .ok (.istore_n 2, 1) := by decide +kernel
theorem dX0_bestPoint_12 : decode cX0_bestPoint 12 = .ok (.ldc2_w 26, 3) := by decide +kernel
theorem dX0_bestPoint_15 : decode cX0_bestPoint 15 = .ok (.lstore_n 3, 1) := by decide +kernel
theorem dX0_bestPoint_16 : decode cX0_bestPoint 16 = .ok (.iconst 0, 1) := by decide +kernel
theorem dX0_bestPoint_17 : decode cX0_bestPoint 17 = .ok (.istore 5, 2) := by decide +kernel
theorem dX0_bestPoint_19 : decode cX0_bestPoint 19 = .ok (.iload 5, 2) := by decide +kernel
theorem dX0_bestPoint_21 : decode cX0_bestPoint 21 = .ok (.iload_n 1, 1) := by decide +kernel
theorem dX0_bestPoint_22 : decode cX0_bestPoint 22 = .ok (.if_icmp .gt 30, 3) := by decide +kernel
theorem dX0_bestPoint_25 : decode cX0_bestPoint 25 = .ok (.lload_n 3, 1) := by decide +kernel
theorem dX0_bestPoint_26 : decode cX0_bestPoint 26 = .ok (.iload 5, 2) := by decide +kernel
theorem dX0_bestPoint_28 : decode cX0_bestPoint 28 = .ok (.i2l, 1) := by decide +kernel
theorem dX0_bestPoint_29 : decode cX0_bestPoint 29 = .ok (.aload_n 0, 1) := by decide +kernel
theorem dX0_bestPoint_30 : decode cX0_bestPoint 30 = .ok (.iload 5, 2) := by decide +kernel
theorem dX0_bestPoint_32 : decode cX0_bestPoint 32 = .ok (.invokevirtual 9, 3) := by decide +kernel
theorem dX0_bestPoint_35 : decode cX0_bestPoint 35 = .ok (.i2l, 1) := by decide +kernel
theorem dX0_bestPoint_36 : decode cX0_bestPoint 36 = .ok (.lmul, 1) := by decide +kernel
theorem dX0_bestPoint_37 : decode cX0_bestPoint 37 = .ok (.lconst 1, 1) := by decide +kernel
theorem dX0_bestPoint_38 : decode cX0_bestPoint 38 = .ok (.lsub, 1) := by decide +kernel
theorem dX0_bestPoint_39 : decode cX0_bestPoint 39 = .ok (.invokestatic 28, 3) := by decide +kernel
theorem dX0_bestPoint_42 : decode cX0_bestPoint 42 = .ok (.lstore_n 3, 1) := by decide +kernel
theorem dX0_bestPoint_43 : decode cX0_bestPoint 43 = .ok (.iload 5, 2) := by decide +kernel
theorem dX0_bestPoint_45 : decode cX0_bestPoint 45 = .ok (.iload_n 2, 1) := by decide +kernel
theorem dX0_bestPoint_46 : decode cX0_bestPoint 46 = .ok (.iadd, 1) := by decide +kernel
theorem dX0_bestPoint_47 : decode cX0_bestPoint 47 = .ok (.istore 5, 2) := by decide +kernel
theorem dX0_bestPoint_49 : decode cX0_bestPoint 49 = .ok (.goto (-30), 3) := by decide +kernel
theorem dX0_bestPoint_52 : decode cX0_bestPoint 52 = .ok (.iconst 0, 1) := by decide +kernel
theorem dX0_bestPoint_53 : decode cX0_bestPoint 53 = .ok (.istore 5, 2) := by decide +kernel
theorem dX0_bestPoint_55 : decode cX0_bestPoint 55 = .ok (.iconst 0, 1) := by decide +kernel
theorem dX0_bestPoint_56 : decode cX0_bestPoint 56 = .ok (.istore 6, 2) := by decide +kernel
theorem dX0_bestPoint_58 : decode cX0_bestPoint 58 = .ok (.iload 6, 2) := by decide +kernel
theorem dX0_bestPoint_60 : decode cX0_bestPoint 60 = .ok (.iload_n 1, 1) := by decide +kernel
theorem dX0_bestPoint_61 : decode cX0_bestPoint 61 = .ok (.if_icmp .gt 64, 3) := by decide +kernel
theorem dX0_bestPoint_64 : decode cX0_bestPoint 64 = .ok (.aload_n 0, 1) := by decide +kernel
theorem dX0_bestPoint_65 : decode cX0_bestPoint 65 = .ok (.iload 6, 2) := by decide +kernel
theorem dX0_bestPoint_67 : decode cX0_bestPoint 67 = .ok (.invokevirtual 9, 3) := by decide +kernel
theorem dX0_bestPoint_70 : decode cX0_bestPoint 70 = .ok (.istore 7, 2) := by decide +kernel
theorem dX0_bestPoint_72 : decode cX0_bestPoint 72 = .ok (.iload 7, 2) := by decide +kernel
theorem dX0_bestPoint_74 : decode cX0_bestPoint 74 = .ok (.ifCond .gt 6, 3) := by decide +kernel
theorem dX0_bestPoint_77 : decode cX0_bestPoint 77 = .ok (.goto 48, 3) := by decide +kernel
theorem dX0_bestPoint_80 : decode cX0_bestPoint 80 = .ok (.iload 6, 2) := by decide +kernel
theorem dX0_bestPoint_82 : decode cX0_bestPoint 82 = .ok (.i2l, 1) := by decide +kernel
theorem dX0_bestPoint_83 : decode cX0_bestPoint 83 = .ok (.iload 7, 2) := by decide +kernel
theorem dX0_bestPoint_85 : decode cX0_bestPoint 85 = .ok (.i2l, 1) := by decide +kernel
theorem dX0_bestPoint_86 : decode cX0_bestPoint 86 = .ok (.lmul, 1) := by decide +kernel
theorem dX0_bestPoint_87 : decode cX0_bestPoint 87 = .ok (.lload_n 3, 1) := by decide +kernel
theorem dX0_bestPoint_88 : decode cX0_bestPoint 88 = .ok (.lcmp, 1) := by decide +kernel
theorem dX0_bestPoint_89 : decode cX0_bestPoint 89 = .ok (.ifCond .le 15, 3) := by decide +kernel
theorem dX0_bestPoint_92 : decode cX0_bestPoint 92 = .ok (.iload 6, 2) := by decide +kernel
theorem dX0_bestPoint_94 : decode cX0_bestPoint 94 = .ok (.i2l, 1) := by decide +kernel
theorem dX0_bestPoint_95 : decode cX0_bestPoint 95 = .ok (.iload 7, 2) := by decide +kernel
theorem dX0_bestPoint_97 : decode cX0_bestPoint 97 = .ok (.i2l, 1) := by decide +kernel
theorem dX0_bestPoint_98 : decode cX0_bestPoint 98 = .ok (.lmul, 1) := by decide +kernel
theorem dX0_bestPoint_99 : decode cX0_bestPoint 99 = .ok (.lstore_n 3, 1) := by decide +kernel
theorem dX0_bestPoint_100 : decode cX0_bestPoint 100 = .ok (.iload 6, 2) := by decide +kernel
theorem dX0_bestPoint_102 : decode cX0_bestPoint 102 = .ok (.istore 5, 2) := by decide +kernel
theorem dX0_bestPoint_104 : decode cX0_bestPoint 104 = .ok (.iload 6, 2) := by decide +kernel
theorem dX0_bestPoint_106 : decode cX0_bestPoint 106 = .ok (.i2l, 1) := by decide +kernel
theorem dX0_bestPoint_107 : decode cX0_bestPoint 107 = .ok (.lconst 1, 1) := by decide +kernel
theorem dX0_bestPoint_108 : decode cX0_bestPoint 108 = .ok (.ladd, 1) := by decide +kernel
theorem dX0_bestPoint_109 : decode cX0_bestPoint 109 = .ok (.lload_n 3, 1) := by decide +kernel
theorem dX0_bestPoint_110 : decode cX0_bestPoint 110 = .ok (.iload 7, 2) := by decide +kernel
theorem dX0_bestPoint_112 : decode cX0_bestPoint 112 = .ok (.i2l, 1) := by decide +kernel
theorem dX0_bestPoint_113 : decode cX0_bestPoint 113 = .ok (.ldiv, 1) := by decide +kernel
theorem dX0_bestPoint_114 : decode cX0_bestPoint 114 = .ok (.lconst 1, 1) := by decide +kernel
theorem dX0_bestPoint_115 : decode cX0_bestPoint 115 = .ok (.ladd, 1) := by decide +kernel
theorem dX0_bestPoint_116 : decode cX0_bestPoint 116 = .ok (.invokestatic 28, 3) := by decide +kernel
theorem dX0_bestPoint_119 : decode cX0_bestPoint 119 = .ok (.l2i, 1) := by decide +kernel
theorem dX0_bestPoint_120 : decode cX0_bestPoint 120 = .ok (.istore 6, 2) := by decide +kernel
theorem dX0_bestPoint_122 : decode cX0_bestPoint 122 = .ok (.goto (-64), 3) := by decide +kernel
theorem dX0_bestPoint_125 : decode cX0_bestPoint 125 = .ok (.iload 5, 2) := by decide +kernel
theorem dX0_bestPoint_127 : decode cX0_bestPoint 127 = .ok (.ireturn, 1) := by decide +kernel
theorem dX1_init_0 : decode cX1_init 0 = .ok (.aload_n 0, 1) := by decide +kernel
theorem dX1_init_1 : decode cX1_init 1 = .ok (.invokespecial 3, 3) := by decide +kernel
theorem dX1_init_4 : decode cX1_init 4 = .ok (.aload_n 0, 1) := by decide +kernel
theorem dX1_init_5 : decode cX1_init 5 = .ok (.bipush 7, 2) := by decide +kernel
theorem dX1_init_7 : decode cX1_init 7 = .ok (.putfield 9, 3) := by decide +kernel
theorem dX1_init_10 : decode cX1_init 10 = .ok (.return_, 1) := by decide +kernel
theorem dX2_init_0 : decode cX2_init 0 = .ok (.aload_n 0, 1) := by decide +kernel
theorem dX2_init_1 : decode cX2_init 1 = .ok (.invokespecial 3, 3) := by decide +kernel
theorem dX2_init_4 : decode cX2_init 4 = .ok (.aload_n 0, 1) := by decide +kernel
theorem dX2_init_5 : decode cX2_init 5 = .ok (.iconst 0, 1) := by decide +kernel
theorem dX2_init_6 : decode cX2_init 6 = .ok (.putfield 9, 3) := by decide +kernel
theorem dX2_init_9 : decode cX2_init 9 = .ok (.aload_n 0, 1) := by decide +kernel
theorem dX2_init_10 : decode cX2_init 10 = .ok (.aload_n 1, 1) := by decide +kernel
theorem dX2_init_11 : decode cX2_init 11 = .ok (.putfield 15, 3) := by decide +kernel
theorem dX2_init_14 : decode cX2_init 14 = .ok (.return_, 1) := by decide +kernel
theorem dX2_valueAt_0 : decode cX2_valueAt 0 = .ok (.iconst 0, 1) := by decide +kernel
theorem dX2_valueAt_1 : decode cX2_valueAt 1 = .ok (.istore_n 2, 1) := by decide +kernel
theorem dX2_valueAt_2 : decode cX2_valueAt 2 = .ok (.iconst 0, 1) := by decide +kernel
theorem dX2_valueAt_3 : decode cX2_valueAt 3 = .ok (.istore_n 3, 1) := by decide +kernel
theorem dX2_valueAt_4 : decode cX2_valueAt 4 = .ok (.iload_n 3, 1) := by decide +kernel
theorem dX2_valueAt_5 : decode cX2_valueAt 5 = .ok (.aload_n 0, 1) := by decide +kernel
theorem dX2_valueAt_6 : decode cX2_valueAt 6 = .ok (.getfield 9, 3) := by decide +kernel
theorem dX2_valueAt_9 : decode cX2_valueAt 9 = .ok (.if_icmp .ge 22, 3) := by decide +kernel
theorem dX2_valueAt_12 : decode cX2_valueAt 12 = .ok (.iload_n 2, 1) := by decide +kernel
theorem dX2_valueAt_13 : decode cX2_valueAt 13 = .ok (.aload_n 0, 1) := by decide +kernel
theorem dX2_valueAt_14 : decode cX2_valueAt 14 = .ok (.getfield 15, 3) := by decide +kernel
theorem dX2_valueAt_17 : decode cX2_valueAt 17 = .ok (.iload_n 3, 1) := by decide +kernel
theorem dX2_valueAt_18 : decode cX2_valueAt 18 = .ok (.aaload, 1) := by decide +kernel
theorem dX2_valueAt_19 : decode cX2_valueAt 19 = .ok (.iload_n 1, 1) := by decide +kernel
theorem dX2_valueAt_20 : decode cX2_valueAt 20 = .ok (.invokevirtual 19, 3) := by decide +kernel
theorem dX2_valueAt_23 : decode cX2_valueAt 23 = .ok (.iadd, 1) := by decide +kernel
theorem dX2_valueAt_24 : decode cX2_valueAt 24 = .ok (.istore_n 2, 1) := by decide +kernel
theorem dX2_valueAt_25 : decode cX2_valueAt 25 = .ok (.iinc 3 1, 3) := by decide +kernel
theorem dX2_valueAt_28 : decode cX2_valueAt 28 = .ok (.goto (-24), 3) := by decide +kernel
theorem dX2_valueAt_31 : decode cX2_valueAt 31 = .ok (.iload_n 2, 1) := by decide +kernel
theorem dX2_valueAt_32 : decode cX2_valueAt 32 = .ok (.ireturn, 1) := by decide +kernel
theorem dX2_end_0 : decode cX2_end 0 = .ok (.sipush 7200, 3) := by decide +kernel
theorem dX2_end_3 : decode cX2_end 3 = .ok (.ireturn, 1) := by decide +kernel
theorem dX3_init_0 : decode cX3_init 0 = .ok (.aload_n 0, 1) := by decide +kernel
theorem dX3_init_1 : decode cX3_init 1 = .ok (.invokespecial 1, 3) := by decide +kernel
theorem dX3_init_4 : decode cX3_init 4 = .ok (.aload_n 0, 1) := by decide +kernel
theorem dX3_init_5 : decode cX3_init 5 = .ok (.iconst 0, 1) := by decide +kernel
theorem dX3_init_6 : decode cX3_init 6 = .ok (.putfield 7, 3) := by decide +kernel
theorem dX3_init_9 : decode cX3_init 9 = .ok (.aload_n 0, 1) := by decide +kernel
theorem dX3_init_10 : decode cX3_init 10 = .ok (.iconst 0, 1) := by decide +kernel
theorem dX3_init_11 : decode cX3_init 11 = .ok (.putfield 13, 3) := by decide +kernel
theorem dX3_init_14 : decode cX3_init 14 = .ok (.aload_n 0, 1) := by decide +kernel
theorem dX3_init_15 : decode cX3_init 15 = .ok (.iconst 0, 1) := by decide +kernel
theorem dX3_init_16 : decode cX3_init 16 = .ok (.putfield 16, 3) := by decide +kernel
theorem dX3_init_19 : decode cX3_init 19 = .ok (.aload_n 0, 1) := by decide +kernel
theorem dX3_init_20 : decode cX3_init 20 = .ok (.iconst 0, 1) := by decide +kernel
theorem dX3_init_21 : decode cX3_init 21 = .ok (.putfield 19, 3) := by decide +kernel
theorem dX3_init_24 : decode cX3_init 24 = .ok (.aload_n 0, 1) := by decide +kernel
theorem dX3_init_25 : decode cX3_init 25 = .ok (.iconst 0, 1) := by decide +kernel
theorem dX3_init_26 : decode cX3_init 26 = .ok (.putfield 22, 3) := by decide +kernel
theorem dX3_init_29 : decode cX3_init 29 = .ok (.aload_n 0, 1) := by decide +kernel
theorem dX3_init_30 : decode cX3_init 30 = .ok (.iconst 1, 1) := by decide +kernel
theorem dX3_init_31 : decode cX3_init 31 = .ok (.putfield 25, 3) := by decide +kernel
theorem dX3_init_34 : decode cX3_init 34 = .ok (.aload_n 0, 1) := by decide +kernel
theorem dX3_init_35 : decode cX3_init 35 = .ok (.iconst 0, 1) := by decide +kernel
theorem dX3_init_36 : decode cX3_init 36 = .ok (.putfield 29, 3) := by decide +kernel
theorem dX3_init_39 : decode cX3_init 39 = .ok (.aload_n 0, 1) := by decide +kernel
theorem dX3_init_40 : decode cX3_init 40 = .ok (.iconst 0, 1) := by decide +kernel
theorem dX3_init_41 : decode cX3_init 41 = .ok (.putfield 32, 3) := by decide +kernel
theorem dX3_init_44 : decode cX3_init 44 = .ok (.aload_n 0, 1) := by decide +kernel
theorem dX3_init_45 : decode cX3_init 45 = .ok (.aload_n 1, 1) := by decide +kernel
theorem dX3_init_46 : decode cX3_init 46 = .ok (.putfield 35, 3) := by decide +kernel
theorem dX3_init_49 : decode cX3_init 49 = .ok (.return_, 1) := by decide +kernel
theorem dX3_illuminate_0 : decode cX3_illuminate 0 = .ok (.aload_n 0, 1) := by decide +kernel
theorem dX3_illuminate_1 : decode cX3_illuminate 1 = .ok (.iload_n 1, 1) := by decide +kernel
theorem dX3_illuminate_2 : decode cX3_illuminate 2 = .ok (.putfield 16, 3) := by decide +kernel
theorem dX3_illuminate_5 : decode cX3_illuminate 5 = .ok (.aload_n 0, 1) := by decide +kernel
theorem dX3_illuminate_6 : decode cX3_illuminate 6 = .ok (.iload_n 1, 1) := by decide +kernel
theorem dX3_illuminate_7 : decode cX3_illuminate 7 = .ok (.aload_n 0, 1) := by decide +kernel
theorem dX3_illuminate_8 : decode cX3_illuminate 8 = .ok (.getfield 7, 3) := by decide +kernel
theorem dX3_illuminate_11 : decode cX3_illuminate 11 = .ok (.imul, 1) := by decide +kernel
theorem dX3_illuminate_12 : decode cX3_illuminate 12 = .ok (.sipush 1000, 3) := by decide +kernel
theorem dX3_illuminate_15 : decode cX3_illuminate 15 = .ok (.idiv, 1) := by decide +kernel
theorem dX3_illuminate_16 : decode cX3_illuminate 16 = .ok (.putfield 19, 3) := by decide +kernel
theorem dX3_illuminate_19 : decode cX3_illuminate 19 = .ok (.return_, 1) := by decide +kernel
theorem dX3_valueAt_0 : decode cX3_valueAt 0 = .ok (.iload_n 1, 1) := by decide +kernel
theorem dX3_valueAt_1 : decode cX3_valueAt 1 = .ok (.aload_n 0, 1) := by decide +kernel
theorem dX3_valueAt_2 : decode cX3_valueAt 2 = .ok (.getfield 19, 3) := by decide +kernel
theorem dX3_valueAt_5 : decode cX3_valueAt 5 = .ok (.if_icmp .le 12, 3) := by decide +kernel
theorem dX3_valueAt_8 : decode cX3_valueAt 8 = .ok (.aload_n 0, 1) := by decide +kernel
theorem dX3_valueAt_9 : decode cX3_valueAt 9 = .ok (.getfield 35, 3) := by decide +kernel
theorem dX3_valueAt_12 : decode cX3_valueAt 12 = .ok (.getfield 39, 3) := by decide +kernel
theorem dX3_valueAt_15 : decode cX3_valueAt 15 = .ok (.ineg, 1) := by decide +kernel
theorem dX3_valueAt_16 : decode cX3_valueAt 16 = .ok (.ireturn, 1) := by decide +kernel
theorem dX3_valueAt_17 : decode cX3_valueAt 17 = .ok (.aload_n 0, 1) := by decide +kernel
theorem dX3_valueAt_18 : decode cX3_valueAt 18 = .ok (.getfield 13, 3) := by decide +kernel
theorem dX3_valueAt_21 : decode cX3_valueAt 21 = .ok (.aload_n 0, 1) := by decide +kernel
theorem dX3_valueAt_22 : decode cX3_valueAt 22 = .ok (.getfield 22, 3) := by decide +kernel
theorem dX3_valueAt_25 : decode cX3_valueAt 25 = .ok (.iload_n 1, 1) := by decide +kernel
theorem dX3_valueAt_26 : decode cX3_valueAt 26 = .ok (.imul, 1) := by decide +kernel
theorem dX3_valueAt_27 : decode cX3_valueAt 27 = .ok (.sipush 10000, 3) := by decide +kernel
theorem dX3_valueAt_30 : decode cX3_valueAt 30 = .ok (.idiv, 1) := by decide +kernel
theorem dX3_valueAt_31 : decode cX3_valueAt 31 = .ok (.isub, 1) := by decide +kernel
theorem dX3_valueAt_32 : decode cX3_valueAt 32 = .ok (.istore_n 2, 1) := by decide +kernel
theorem dX3_valueAt_33 : decode cX3_valueAt 33 = .ok (.iload_n 2, 1) := by decide +kernel
theorem dX3_valueAt_34 : decode cX3_valueAt 34 = .ok (.ifCond .le 7, 3) := by decide +kernel
theorem dX3_valueAt_37 : decode cX3_valueAt 37 = .ok (.iload_n 2, 1) := by decide +kernel
theorem dX3_valueAt_38 : decode cX3_valueAt 38 = .ok (.goto 4, 3) := by decide +kernel
theorem dX3_valueAt_41 : decode cX3_valueAt 41 = .ok (.iconst 0, 1) := by decide +kernel
theorem dX3_valueAt_42 : decode cX3_valueAt 42 = .ok (.ireturn, 1) := by decide +kernel
theorem dX3_end_0 : decode cX3_end 0 = .ok (.aload_n 0, 1) := by decide +kernel
theorem dX3_end_1 : decode cX3_end 1 = .ok (.getfield 19, 3) := by decide +kernel
theorem dX3_end_4 : decode cX3_end 4 = .ok (.ireturn, 1) := by decide +kernel
theorem dX4_init_0 : decode cX4_init 0 = .ok (.aload_n 0, 1) := by decide +kernel
theorem dX4_init_1 : decode cX4_init 1 = .ok (.invokespecial 3, 3) := by decide +kernel
theorem dX4_init_4 : decode cX4_init 4 = .ok (.aload_n 0, 1) := by decide +kernel
theorem dX4_init_5 : decode cX4_init 5 = .ok (.bipush 12, 2) := by decide +kernel
theorem dX4_init_7 : decode cX4_init 7 = .ok (.newarray .int, 2) := by decide +kernel
theorem dX4_init_9 : decode cX4_init 9 = .ok (.putfield 9, 3) := by decide +kernel
theorem dX4_init_12 : decode cX4_init 12 = .ok (.aload_n 0, 1) := by decide +kernel
theorem dX4_init_13 : decode cX4_init 13 = .ok (.iconst 0, 1) := by decide +kernel
theorem dX4_init_14 : decode cX4_init 14 = .ok (.putfield 15, 3) := by decide +kernel
theorem dX4_init_17 : decode cX4_init 17 = .ok (.aload_n 0, 1) := by decide +kernel
theorem dX4_init_18 : decode cX4_init 18 = .ok (.aload_n 1, 1) := by decide +kernel
theorem dX4_init_19 : decode cX4_init 19 = .ok (.putfield 19, 3) := by decide +kernel
theorem dX4_init_22 : decode cX4_init 22 = .ok (.return_, 1) := by decide +kernel
theorem dX4_isFull_0 : decode cX4_isFull 0 = .ok (.aload_n 0, 1) := by decide +kernel
theorem dX4_isFull_1 : decode cX4_isFull 1 = .ok (.getfield 15, 3) := by decide +kernel
theorem dX4_isFull_4 : decode cX4_isFull 4 = .ok (.bipush 12, 2) := by decide +kernel
theorem dX4_isFull_6 : decode cX4_isFull 6 = .ok (.if_icmp .lt 7, 3) := by decide +kernel
theorem dX4_isFull_9 : decode cX4_isFull 9 = .ok (.iconst 1, 1) := by decide +kernel
theorem dX4_isFull_10 : decode cX4_isFull 10 = .ok (.goto 4, 3) := by decide +kernel
theorem dX4_isFull_13 : decode cX4_isFull 13 = .ok (.iconst 0, 1) := by decide +kernel
theorem dX4_isFull_14 : decode cX4_isFull 14 = .ok (.ireturn, 1) := by decide +kernel
theorem dX4_valueAt_0 : decode cX4_valueAt 0 = .ok (.iconst 0, 1) := by decide +kernel
theorem dX4_valueAt_1 : decode cX4_valueAt 1 = .ok (.istore_n 2, 1) := by decide +kernel
theorem dX4_valueAt_2 : decode cX4_valueAt 2 = .ok (.iconst 0, 1) := by decide +kernel
theorem dX4_valueAt_3 : decode cX4_valueAt 3 = .ok (.istore_n 3, 1) := by decide +kernel
theorem dX4_valueAt_4 : decode cX4_valueAt 4 = .ok (.iload_n 3, 1) := by decide +kernel
theorem dX4_valueAt_5 : decode cX4_valueAt 5 = .ok (.aload_n 0, 1) := by decide +kernel
theorem dX4_valueAt_6 : decode cX4_valueAt 6 = .ok (.getfield 15, 3) := by decide +kernel
theorem dX4_valueAt_9 : decode cX4_valueAt 9 = .ok (.if_icmp .ge 27, 3) := by decide +kernel
theorem dX4_valueAt_12 : decode cX4_valueAt 12 = .ok (.iload_n 2, 1) := by decide +kernel
theorem dX4_valueAt_13 : decode cX4_valueAt 13 = .ok (.aload_n 0, 1) := by decide +kernel
theorem dX4_valueAt_14 : decode cX4_valueAt 14 = .ok (.getfield 19, 3) := by decide +kernel
theorem dX4_valueAt_17 : decode cX4_valueAt 17 = .ok (.aload_n 0, 1) := by decide +kernel
theorem dX4_valueAt_18 : decode cX4_valueAt 18 = .ok (.getfield 9, 3) := by decide +kernel
theorem dX4_valueAt_21 : decode cX4_valueAt 21 = .ok (.iload_n 3, 1) := by decide +kernel
theorem dX4_valueAt_22 : decode cX4_valueAt 22 = .ok (.iaload, 1) := by decide +kernel
theorem dX4_valueAt_23 : decode cX4_valueAt 23 = .ok (.aaload, 1) := by decide +kernel
theorem dX4_valueAt_24 : decode cX4_valueAt 24 = .ok (.iload_n 1, 1) := by decide +kernel
theorem dX4_valueAt_25 : decode cX4_valueAt 25 = .ok (.invokevirtual 23, 3) := by decide +kernel
theorem dX4_valueAt_28 : decode cX4_valueAt 28 = .ok (.iadd, 1) := by decide +kernel
theorem dX4_valueAt_29 : decode cX4_valueAt 29 = .ok (.istore_n 2, 1) := by decide +kernel
theorem dX4_valueAt_30 : decode cX4_valueAt 30 = .ok (.iinc 3 1, 3) := by decide +kernel
theorem dX4_valueAt_33 : decode cX4_valueAt 33 = .ok (.goto (-29), 3) := by decide +kernel
theorem dX4_valueAt_36 : decode cX4_valueAt 36 = .ok (.iload_n 2, 1) := by decide +kernel
theorem dX4_valueAt_37 : decode cX4_valueAt 37 = .ok (.ireturn, 1) := by decide +kernel
theorem dX4_end_0 : decode cX4_end 0 = .ok (.iconst 0, 1) := by decide +kernel
theorem dX4_end_1 : decode cX4_end 1 = .ok (.istore_n 1, 1) := by decide +kernel
theorem dX4_end_2 : decode cX4_end 2 = .ok (.sipush 1200, 3) := by decide +kernel
theorem dX4_end_5 : decode cX4_end 5 = .ok (.istore_n 2, 1) := by decide +kernel
theorem dX4_end_6 : decode cX4_end 6 = .ok (.iconst 0, 1) := by decide +kernel
theorem dX4_end_7 : decode cX4_end 7 = .ok (.istore_n 3, 1) := by decide +kernel
theorem dX4_end_8 : decode cX4_end 8 = .ok (.iload_n 3, 1) := by decide +kernel
theorem dX4_end_9 : decode cX4_end 9 = .ok (.aload_n 0, 1) := by decide +kernel
theorem dX4_end_10 : decode cX4_end 10 = .ok (.getfield 15, 3) := by decide +kernel
theorem dX4_end_13 : decode cX4_end 13 = .ok (.if_icmp .ge 50, 3) := by decide +kernel
theorem dX4_end_16 : decode cX4_end 16 = .ok (.aload_n 0, 1) := by decide +kernel
theorem dX4_end_17 : decode cX4_end 17 = .ok (.getfield 19, 3) := by decide +kernel
theorem dX4_end_20 : decode cX4_end 20 = .ok (.aload_n 0, 1) := by decide +kernel
theorem dX4_end_21 : decode cX4_end 21 = .ok (.getfield 9, 3) := by decide +kernel
theorem dX4_end_24 : decode cX4_end 24 = .ok (.iload_n 3, 1) := by decide +kernel
theorem dX4_end_25 : decode cX4_end 25 = .ok (.iaload, 1) := by decide +kernel
theorem dX4_end_26 : decode cX4_end 26 = .ok (.aaload, 1) := by decide +kernel
theorem dX4_end_27 : decode cX4_end 27 = .ok (.astore 4, 2) := by decide +kernel
theorem dX4_end_29 : decode cX4_end 29 = .ok (.iload_n 1, 1) := by decide +kernel
theorem dX4_end_30 : decode cX4_end 30 = .ok (.aload 4, 2) := by decide +kernel
theorem dX4_end_32 : decode cX4_end 32 = .ok (.getfield 29, 3) := by decide +kernel
theorem dX4_end_35 : decode cX4_end 35 = .ok (.invokestatic 32, 3) := by decide +kernel
theorem dX4_end_38 : decode cX4_end 38 = .ok (.istore_n 1, 1) := by decide +kernel
theorem dX4_end_39 : decode cX4_end 39 = .ok (.aload 4, 2) := by decide +kernel
theorem dX4_end_41 : decode cX4_end 41 = .ok (.getfield 38, 3) := by decide +kernel
theorem dX4_end_44 : decode cX4_end 44 = .ok (.ifCond .ne 13, 3) := by decide +kernel
theorem dX4_end_47 : decode cX4_end 47 = .ok (.iload_n 2, 1) := by decide +kernel
theorem dX4_end_48 : decode cX4_end 48 = .ok (.aload 4, 2) := by decide +kernel
theorem dX4_end_50 : decode cX4_end 50 = .ok (.getfield 29, 3) := by decide +kernel
theorem dX4_end_53 : decode cX4_end 53 = .ok (.invokestatic 42, 3) := by decide +kernel
theorem dX4_end_56 : decode cX4_end 56 = .ok (.istore_n 2, 1) := by decide +kernel
theorem dX4_end_57 : decode cX4_end 57 = .ok (.iinc 3 1, 3) := by decide +kernel
theorem dX4_end_60 : decode cX4_end 60 = .ok (.goto (-52), 3) := by decide +kernel
theorem dX4_end_63 : decode cX4_end 63 = .ok (.iload_n 1, 1) := by decide +kernel
theorem dX4_end_64 : decode cX4_end 64 = .ok (.iload_n 2, 1) := by decide +kernel
theorem dX4_end_65 : decode cX4_end 65 = .ok (.invokestatic 42, 3) := by decide +kernel
theorem dX4_end_68 : decode cX4_end 68 = .ok (.ireturn, 1) := by decide +kernel
theorem dX4_bypassedAt_0 : decode cX4_bypassedAt 0 = .ok (.iconst 0, 1) := by decide +kernel
theorem dX4_bypassedAt_1 : decode cX4_bypassedAt 1 = .ok (.istore_n 2, 1) := by decide +kernel
theorem dX4_bypassedAt_2 : decode cX4_bypassedAt 2 = .ok (.iconst 0, 1) := by decide +kernel
theorem dX4_bypassedAt_3 : decode cX4_bypassedAt 3 = .ok (.istore_n 3, 1) := by decide +kernel
theorem dX4_bypassedAt_4 : decode cX4_bypassedAt 4 = .ok (.iload_n 3, 1) := by decide +kernel
theorem dX4_bypassedAt_5 : decode cX4_bypassedAt 5 = .ok (.aload_n 0, 1) := by decide +kernel
theorem dX4_bypassedAt_6 : decode cX4_bypassedAt 6 = .ok (.getfield 15, 3) := by decide +kernel
theorem dX4_bypassedAt_9 : decode cX4_bypassedAt 9 = .ok (.if_icmp .ge 33, 3) := by decide +kernel
theorem dX4_bypassedAt_12 : decode cX4_bypassedAt 12 = .ok (.iload_n 1, 1) := by decide +kernel
theorem dX4_bypassedAt_13 : decode cX4_bypassedAt 13 = .ok (.aload_n 0, 1) := by decide +kernel
theorem dX4_bypassedAt_14 : decode cX4_bypassedAt 14 = .ok (.getfield 19, 3) := by decide +kernel
theorem dX4_bypassedAt_17 : decode cX4_bypassedAt 17 = .ok (.aload_n 0, 1) := by decide +kernel
theorem dX4_bypassedAt_18 : decode cX4_bypassedAt 18 = .ok (.getfield 9, 3) := by decide +kernel
theorem dX4_bypassedAt_21 : decode cX4_bypassedAt 21 = .ok (.iload_n 3, 1) := by decide +kernel
theorem dX4_bypassedAt_22 : decode cX4_bypassedAt 22 = .ok (.iaload, 1) := by decide +kernel
theorem dX4_bypassedAt_23 : decode cX4_bypassedAt 23 = .ok (.aaload, 1) := by decide +kernel
theorem dX4_bypassedAt_24 : decode cX4_bypassedAt 24 = .ok (.getfield 29, 3) := by decide +kernel
theorem dX4_bypassedAt_27 : decode cX4_bypassedAt 27 = .ok (.if_icmp .le 9, 3) := by decide +kernel
theorem dX4_bypassedAt_30 : decode cX4_bypassedAt 30 = .ok (.iload_n 2, 1) := by decide +kernel
theorem dX4_bypassedAt_31 : decode cX4_bypassedAt 31 = .ok (.iconst 1, 1) := by decide +kernel
theorem dX4_bypassedAt_32 : decode cX4_bypassedAt 32 = .ok (.iload_n 3, 1) := by decide +kernel
theorem dX4_bypassedAt_33 : decode cX4_bypassedAt 33 = .ok (.ishl, 1) := by decide +kernel
theorem dX4_bypassedAt_34 : decode cX4_bypassedAt 34 = .ok (.ior, 1) := by decide +kernel
theorem dX4_bypassedAt_35 : decode cX4_bypassedAt 35 = .ok (.istore_n 2, 1) := by decide +kernel
theorem dX4_bypassedAt_36 : decode cX4_bypassedAt 36 = .ok (.iinc 3 1, 3) := by decide +kernel
theorem dX4_bypassedAt_39 : decode cX4_bypassedAt 39 = .ok (.goto (-35), 3) := by decide +kernel
theorem dX4_bypassedAt_42 : decode cX4_bypassedAt 42 = .ok (.iload_n 2, 1) := by decide +kernel
theorem dX4_bypassedAt_43 : decode cX4_bypassedAt 43 = .ok (.ireturn, 1) := by decide +kernel
theorem dX4_isPeak_0 : decode cX4_isPeak 0 = .ok (.aload_n 0, 1) := by decide +kernel
theorem dX4_isPeak_1 : decode cX4_isPeak 1 = .ok (.iload_n 1, 1) := by decide +kernel
theorem dX4_isPeak_2 : decode cX4_isPeak 2 = .ok (.invokevirtual 45, 3) := by decide +kernel
theorem dX4_isPeak_5 : decode cX4_isPeak 5 = .ok (.lstore_n 3, 1) := by decide +kernel
theorem dX4_isPeak_6 : decode cX4_isPeak 6 = .ok (.lload_n 3, 1) := by decide +kernel
theorem dX4_isPeak_7 : decode cX4_isPeak 7 = .ok (.aload_n 0, 1) := by decide +kernel
theorem dX4_isPeak_8 : decode cX4_isPeak 8 = .ok (.iload_n 1, 1) := by decide +kernel
theorem dX4_isPeak_9 : decode cX4_isPeak 9 = .ok (.iconst 1, 1) := by decide +kernel
theorem dX4_isPeak_10 : decode cX4_isPeak 10 = .ok (.isub, 1) := by decide +kernel
theorem dX4_isPeak_11 : decode cX4_isPeak 11 = .ok (.invokevirtual 45, 3) := by decide +kernel
theorem dX4_isPeak_14 : decode cX4_isPeak 14 = .ok (.lcmp, 1) := by decide +kernel
theorem dX4_isPeak_15 : decode cX4_isPeak 15 = .ok (.ifCond .le 24, 3) := by decide +kernel
theorem dX4_isPeak_18 : decode cX4_isPeak 18 = .ok (.iload_n 1, 1) := by decide +kernel
theorem dX4_isPeak_19 : decode cX4_isPeak 19 = .ok (.iload_n 2, 1) := by decide +kernel
theorem dX4_isPeak_20 : decode cX4_isPeak 20 = .ok (.if_icmp .eq 15, 3) := by decide +kernel
theorem dX4_isPeak_23 : decode cX4_isPeak 23 = .ok (.lload_n 3, 1) := by decide +kernel
theorem dX4_isPeak_24 : decode cX4_isPeak 24 = .ok (.aload_n 0, 1) := by decide +kernel
theorem dX4_isPeak_25 : decode cX4_isPeak 25 = .ok (.iload_n 1, 1) := by decide +kernel
theorem dX4_isPeak_26 : decode cX4_isPeak 26 = .ok (.iconst 1, 1) := by decide +kernel
theorem dX4_isPeak_27 : decode cX4_isPeak 27 = .ok (.iadd, 1) := by decide +kernel
theorem dX4_isPeak_28 : decode cX4_isPeak 28 = .ok (.invokevirtual 45, 3) := by decide +kernel
theorem dX4_isPeak_31 : decode cX4_isPeak 31 = .ok (.lcmp, 1) := by decide +kernel
theorem dX4_isPeak_32 : decode cX4_isPeak 32 = .ok (.ifCond .le 7, 3) := by decide +kernel
theorem dX4_isPeak_35 : decode cX4_isPeak 35 = .ok (.iconst 1, 1) := by decide +kernel
theorem dX4_isPeak_36 : decode cX4_isPeak 36 = .ok (.goto 4, 3) := by decide +kernel
theorem dX4_isPeak_39 : decode cX4_isPeak 39 = .ok (.iconst 0, 1) := by decide +kernel
theorem dX4_isPeak_40 : decode cX4_isPeak 40 = .ok (.ireturn, 1) := by decide +kernel
theorem dX4_bestOfScan_0 : decode cX4_bestOfScan 0 = .ok (.aload_n 0, 1) := by decide +kernel
theorem dX4_bestOfScan_1 : decode cX4_bestOfScan 1 = .ok (.invokevirtual 49, 3) := by decide +kernel
theorem dX4_bestOfScan_4 : decode cX4_bestOfScan 4 = .ok (.istore_n 2, 1) := by decide +kernel
theorem dX4_bestOfScan_5 : decode cX4_bestOfScan 5 = .ok (.iconst 0, 1) := by decide +kernel
theorem dX4_bestOfScan_6 : decode cX4_bestOfScan 6 = .ok (.istore_n 3, 1) := by decide +kernel
theorem dX4_bestOfScan_7 : decode cX4_bestOfScan 7 = .ok (.lconst 0, 1) := by decide +kernel
theorem dX4_bestOfScan_8 : decode cX4_bestOfScan 8 = .ok (.lstore 4, 2) := by decide +kernel
theorem dX4_bestOfScan_10 : decode cX4_bestOfScan 10 = .ok (.iconst 0, 1) := by decide +kernel
theorem dX4_bestOfScan_11 : decode cX4_bestOfScan 11 = .ok (.istore 6, 2) := by decide +kernel
theorem dX4_bestOfScan_13 : decode cX4_bestOfScan 13 = .ok (.iload 6, 2) := by decide +kernel
theorem dX4_bestOfScan_15 : decode cX4_bestOfScan 15 = .ok (.iload_n 2, 1) := by decide +kernel
theorem dX4_bestOfScan_16 : decode cX4_bestOfScan 16 = .ok (.if_icmp .gt 39, 3) := by decide +kernel
theorem dX4_bestOfScan_19 : decode cX4_bestOfScan 19 = .ok (.aload_n 0, 1) := by decide +kernel
theorem dX4_bestOfScan_20 : decode cX4_bestOfScan 20 = .ok (.iload 6, 2) := by decide +kernel
theorem dX4_bestOfScan_22 : decode cX4_bestOfScan 22 = .ok (.invokevirtual 45, 3) := by decide +kernel
theorem dX4_bestOfScan_25 : decode cX4_bestOfScan 25 = .ok (.lstore 7, 2) := by decide +kernel
theorem dX4_bestOfScan_27 : decode cX4_bestOfScan 27 = .ok (.lload 7, 2) := by decide +kernel
theorem dX4_bestOfScan_29 : decode cX4_bestOfScan 29 = .ok (.lload 4, 2) := by decide +kernel
theorem dX4_bestOfScan_31 : decode cX4_bestOfScan 31 = .ok (.lcmp, 1) := by decide +kernel
theorem dX4_bestOfScan_32 : decode cX4_bestOfScan 32 = .ok (.ifCond .le 10, 3) := by decide +kernel
theorem dX4_bestOfScan_35 : decode cX4_bestOfScan 35 = .ok (.lload 7, 2) := by decide +kernel
theorem dX4_bestOfScan_37 : decode cX4_bestOfScan 37 = .ok (.lstore 4, 2) := by decide +kernel
theorem dX4_bestOfScan_39 : decode cX4_bestOfScan 39 = .ok (.iload 6, 2) := by decide +kernel
theorem dX4_bestOfScan_41 : decode cX4_bestOfScan 41 = .ok (.istore_n 3, 1) := by decide +kernel
theorem dX4_bestOfScan_42 : decode cX4_bestOfScan 42 = .ok (.iload 6, 2) := by decide +kernel
theorem dX4_bestOfScan_44 : decode cX4_bestOfScan 44 = .ok (.iload_n 1, 1) := by decide +kernel
theorem dX4_bestOfScan_45 : decode cX4_bestOfScan 45 = .ok (.iconst 1, 1) := by decide +kernel
theorem dX4_bestOfScan_46 : decode cX4_bestOfScan 46 = .ok (.invokestatic 32, 3) := by decide +kernel
theorem dX4_bestOfScan_49 : decode cX4_bestOfScan 49 = .ok (.iadd, 1) := by decide +kernel
theorem dX4_bestOfScan_50 : decode cX4_bestOfScan 50 = .ok (.istore 6, 2) := by decide +kernel
theorem dX4_bestOfScan_52 : decode cX4_bestOfScan 52 = .ok (.goto (-39), 3) := by decide +kernel
theorem dX4_bestOfScan_55 : decode cX4_bestOfScan 55 = .ok (.iload_n 3, 1) := by decide +kernel
theorem dX4_bestOfScan_56 : decode cX4_bestOfScan 56 = .ok (.ireturn, 1) := by decide +kernel
theorem dX4_climbFrom_0 : decode cX4_climbFrom 0 = .ok (.aload_n 0, 1) := by decide +kernel
theorem dX4_climbFrom_1 : decode cX4_climbFrom 1 = .ok (.invokevirtual 49, 3) := by decide +kernel
theorem dX4_climbFrom_4 : decode cX4_climbFrom 4 = .ok (.istore_n 2, 1) := by decide +kernel
theorem dX4_climbFrom_5 : decode cX4_climbFrom 5 = .ok (.iload_n 1, 1) := by decide +kernel
theorem dX4_climbFrom_6 : decode cX4_climbFrom 6 = .ok (.istore_n 3, 1) := by decide +kernel
theorem dX4_climbFrom_7 : decode cX4_climbFrom 7 = .ok (.iconst 0, 1) := by decide +kernel
theorem dX4_climbFrom_8 : decode cX4_climbFrom 8 = .ok (.istore 4, 2) := by decide +kernel
theorem dX4_climbFrom_10 : decode cX4_climbFrom 10 = .ok (.iload 4, 2) := by decide +kernel
theorem dX4_climbFrom_12 : decode cX4_climbFrom 12 = .ok (.iload_n 2, 1) := by decide +kernel
theorem dX4_climbFrom_13 : decode cX4_climbFrom 13 = .ok (.if_icmp .ge 60, 3) := by decide +kernel
theorem dX4_climbFrom_16 : decode cX4_climbFrom 16 = .ok (.aload_n 0, 1) := by decide +kernel
theorem dX4_climbFrom_17 : decode cX4_climbFrom 17 = .ok (.iload_n 3, 1) := by decide +kernel
theorem dX4_climbFrom_18 : decode cX4_climbFrom 18 = .ok (.invokevirtual 45, 3) := by decide +kernel
theorem dX4_climbFrom_21 : decode cX4_climbFrom 21 = .ok (.lstore 5, 2) := by decide +kernel
theorem dX4_climbFrom_23 : decode cX4_climbFrom 23 = .ok (.iload_n 3, 1) := by decide +kernel
theorem dX4_climbFrom_24 : decode cX4_climbFrom 24 = .ok (.iload_n 2, 1) := by decide +kernel
theorem dX4_climbFrom_25 : decode cX4_climbFrom 25 = .ok (.if_icmp .ge 22, 3) := by decide +kernel
theorem dX4_climbFrom_28 : decode cX4_climbFrom 28 = .ok (.aload_n 0, 1) := by decide +kernel
theorem dX4_climbFrom_29 : decode cX4_climbFrom 29 = .ok (.iload_n 3, 1) := by decide +kernel
theorem dX4_climbFrom_30 : decode cX4_climbFrom 30 = .ok (.iconst 1, 1) := by decide +kernel
theorem dX4_climbFrom_31 : decode cX4_climbFrom 31 = .ok (.iadd, 1) := by decide +kernel
theorem dX4_climbFrom_32 : decode cX4_climbFrom 32 = .ok (.invokevirtual 45, 3) := by decide +kernel
theorem dX4_climbFrom_35 : decode cX4_climbFrom 35 = .ok (.lload 5, 2) := by decide +kernel
theorem dX4_climbFrom_37 : decode cX4_climbFrom 37 = .ok (.lcmp, 1) := by decide +kernel
theorem dX4_climbFrom_38 : decode cX4_climbFrom 38 = .ok (.ifCond .le 9, 3) := by decide +kernel
theorem dX4_climbFrom_41 : decode cX4_climbFrom 41 = .ok (.iinc 3 1, 3) := by decide +kernel
theorem dX4_climbFrom_44 : decode cX4_climbFrom 44 = .ok (.goto 23, 3) := by decide +kernel
theorem dX4_climbFrom_47 : decode cX4_climbFrom 47 = .ok (.iload_n 3, 1) := by decide +kernel
theorem dX4_climbFrom_48 : decode cX4_climbFrom 48 = .ok (.ifCond .le 25, 3) := by decide +kernel
theorem dX4_climbFrom_51 : decode cX4_climbFrom 51 = .ok (.aload_n 0, 1) := by decide +kernel
theorem dX4_climbFrom_52 : decode cX4_climbFrom 52 = .ok (.iload_n 3, 1) := by decide +kernel
theorem dX4_climbFrom_53 : decode cX4_climbFrom 53 = .ok (.iconst 1, 1) := by decide +kernel
theorem dX4_climbFrom_54 : decode cX4_climbFrom 54 = .ok (.isub, 1) := by decide +kernel
theorem dX4_climbFrom_55 : decode cX4_climbFrom 55 = .ok (.invokevirtual 45, 3) := by decide +kernel
theorem dX4_climbFrom_58 : decode cX4_climbFrom 58 = .ok (.lload 5, 2) := by decide +kernel
theorem dX4_climbFrom_60 : decode cX4_climbFrom 60 = .ok (.lcmp, 1) := by decide +kernel
theorem dX4_climbFrom_61 : decode cX4_climbFrom 61 = .ok (.ifCond .le 12, 3) := by decide +kernel
theorem dX4_climbFrom_64 : decode cX4_climbFrom 64 = .ok (.iinc 3 (-1), 3) := by decide +kernel
theorem dX4_climbFrom_67 : decode cX4_climbFrom 67 = .ok (.iinc 4 1, 3) := by decide +kernel
theorem dX4_climbFrom_70 : decode cX4_climbFrom 70 = .ok (.goto (-60), 3) := by decide +kernel
theorem dX4_climbFrom_73 : decode cX4_climbFrom 73 = .ok (.iload_n 3, 1) := by decide +kernel
theorem dX4_climbFrom_74 : decode cX4_climbFrom 74 = .ok (.ireturn, 1) := by decide +kernel
theorem dX4_deliveredAt_0 : decode cX4_deliveredAt 0 = .ok (.iconst 0, 1) := by decide +kernel
theorem dX4_deliveredAt_1 : decode cX4_deliveredAt 1 = .ok (.istore_n 2, 1) := by decide +kernel
theorem dX4_deliveredAt_2 : decode cX4_deliveredAt 2 = .ok (.aload_n 0, 1) := by decide +kernel
theorem dX4_deliveredAt_3 : decode cX4_deliveredAt 3 = .ok (.invokevirtual 49, 3) := by decide +kernel
theorem dX4_deliveredAt_6 : decode cX4_deliveredAt 6 = .ok (.istore_n 3, 1) := by decide +kernel
theorem dX4_deliveredAt_7 : decode cX4_deliveredAt 7 = .ok (.iload_n 2, 1) := by decide +kernel
theorem dX4_deliveredAt_8 : decode cX4_deliveredAt 8 = .ok (.iload_n 3, 1) := by decide +kernel
theorem dX4_deliveredAt_9 : decode cX4_deliveredAt 9 = .ok (.if_icmp .ge 36, 3) := by decide +kernel
theorem dX4_deliveredAt_12 : decode cX4_deliveredAt 12 = .ok (.iload_n 2, 1) := by decide +kernel
theorem dX4_deliveredAt_13 : decode cX4_deliveredAt 13 = .ok (.iload_n 3, 1) := by decide +kernel
theorem dX4_deliveredAt_14 : decode cX4_deliveredAt 14 = .ok (.iadd, 1) := by decide +kernel
theorem dX4_deliveredAt_15 : decode cX4_deliveredAt 15 = .ok (.iconst 1, 1) := by decide +kernel
theorem dX4_deliveredAt_16 : decode cX4_deliveredAt 16 = .ok (.iadd, 1) := by decide +kernel
theorem dX4_deliveredAt_17 : decode cX4_deliveredAt 17 = .ok (.iconst 2, 1) := by decide +kernel
theorem dX4_deliveredAt_18 : decode cX4_deliveredAt 18 = .ok (.idiv, 1) := by decide +kernel
theorem dX4_deliveredAt_19 : decode cX4_deliveredAt 19 = .ok (.istore 4, 2) := by decide +kernel
theorem dX4_deliveredAt_21 : decode cX4_deliveredAt 21 = .ok (.aload_n 0, 1) := by decide +kernel
theorem dX4_deliveredAt_22 : decode cX4_deliveredAt 22 = .ok (.iload 4, 2) := by decide +kernel
theorem dX4_deliveredAt_24 : decode cX4_deliveredAt 24 = .ok (.invokevirtual 53, 3) := by decide +kernel
theorem dX4_deliveredAt_27 : decode cX4_deliveredAt 27 = .ok (.iload_n 1, 1) := by decide +kernel
theorem dX4_deliveredAt_28 : decode cX4_deliveredAt 28 = .ok (.if_icmp .lt 9, 3) := by decide +kernel
theorem dX4_deliveredAt_31 : decode cX4_deliveredAt 31 = .ok (.iload 4, 2) := by decide +kernel
theorem dX4_deliveredAt_33 : decode cX4_deliveredAt 33 = .ok (.istore_n 2, 1) := by decide +kernel
theorem dX4_deliveredAt_34 : decode cX4_deliveredAt 34 = .ok (.goto 8, 3) := by decide +kernel
theorem dX4_deliveredAt_37 : decode cX4_deliveredAt 37 = .ok (.iload 4, 2) := by decide +kernel
theorem dX4_deliveredAt_39 : decode cX4_deliveredAt 39 = .ok (.iconst 1, 1) := by decide +kernel
theorem dX4_deliveredAt_40 : decode cX4_deliveredAt 40 = .ok (.isub, 1) := by decide +kernel
theorem dX4_deliveredAt_41 : decode cX4_deliveredAt 41 = .ok (.istore_n 3, 1) := by decide +kernel
theorem dX4_deliveredAt_42 : decode cX4_deliveredAt 42 = .ok (.goto (-35), 3) := by decide +kernel
theorem dX4_deliveredAt_45 : decode cX4_deliveredAt 45 = .ok (.iload_n 2, 1) := by decide +kernel
theorem dX4_deliveredAt_46 : decode cX4_deliveredAt 46 = .ok (.ireturn, 1) := by decide +kernel
theorem dJ9_max_7cf53_0 : decode cJ9_max_7cf53 0 = .ok (.iload_n 0, 1) := by decide +kernel
theorem dJ9_max_7cf53_1 : decode cJ9_max_7cf53 1 = .ok (.iload_n 1, 1) := by decide +kernel
theorem dJ9_max_7cf53_2 : decode cJ9_max_7cf53 2 = .ok (.if_icmp .lt 7, 3) := by decide +kernel
theorem dJ9_max_7cf53_5 : decode cJ9_max_7cf53 5 = .ok (.iload_n 0, 1) := by decide +kernel
theorem dJ9_max_7cf53_6 : decode cJ9_max_7cf53 6 = .ok (.goto 4, 3) := by decide +kernel
theorem dJ9_max_7cf53_9 : decode cJ9_max_7cf53 9 = .ok (.iload_n 1, 1) := by decide +kernel
theorem dJ9_max_7cf53_10 : decode cJ9_max_7cf53 10 = .ok (.ireturn, 1) := by decide +kernel
theorem dJ9_max_f86c9_0 : decode cJ9_max_f86c9 0 = .ok (.lload_n 0, 1) := by decide +kernel
theorem dJ9_max_f86c9_1 : decode cJ9_max_f86c9 1 = .ok (.lload_n 2, 1) := by decide +kernel
theorem dJ9_max_f86c9_2 : decode cJ9_max_f86c9 2 = .ok (.lcmp, 1) := by decide +kernel
theorem dJ9_max_f86c9_3 : decode cJ9_max_f86c9 3 = .ok (.ifCond .lt 7, 3) := by decide +kernel
theorem dJ9_max_f86c9_6 : decode cJ9_max_f86c9 6 = .ok (.lload_n 0, 1) := by decide +kernel
theorem dJ9_max_f86c9_7 : decode cJ9_max_f86c9 7 = .ok (.goto 4, 3) := by decide +kernel
theorem dJ9_max_f86c9_10 : decode cJ9_max_f86c9 10 = .ok (.lload_n 2, 1) := by decide +kernel
theorem dJ9_max_f86c9_11 : decode cJ9_max_f86c9 11 = .ok (.lreturn, 1) := by decide +kernel
theorem dJ9_min_7cf53_0 : decode cJ9_min_7cf53 0 = .ok (.iload_n 0, 1) := by decide +kernel
theorem dJ9_min_7cf53_1 : decode cJ9_min_7cf53 1 = .ok (.iload_n 1, 1) := by decide +kernel
theorem dJ9_min_7cf53_2 : decode cJ9_min_7cf53 2 = .ok (.if_icmp .gt 7, 3) := by decide +kernel
theorem dJ9_min_7cf53_5 : decode cJ9_min_7cf53 5 = .ok (.iload_n 0, 1) := by decide +kernel
theorem dJ9_min_7cf53_6 : decode cJ9_min_7cf53 6 = .ok (.goto 4, 3) := by decide +kernel
theorem dJ9_min_7cf53_9 : decode cJ9_min_7cf53 9 = .ok (.iload_n 1, 1) := by decide +kernel
theorem dJ9_min_7cf53_10 : decode cJ9_min_7cf53 10 = .ok (.ireturn, 1) := by decide +kernel
