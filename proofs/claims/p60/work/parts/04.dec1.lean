theorem dX0_init_0 : decode cX0_init 0 = .ok (.aload_n 0, 1) := by decide +kernel
theorem dX0_init_1 : decode cX0_init 1 = .ok (.invokespecial 1, 3) := by decide +kernel
theorem dX0_init_4 : decode cX0_init 4 = .ok (.aload_n 0, 1) := by decide +kernel
theorem dX0_init_5 : decode cX0_init 5 = .ok (.iconst 4, 1) := by decide +kernel
theorem dX0_init_6 : decode cX0_init 6 = .ok (.newarray .int, 2) := by decide +kernel
theorem dX0_init_8 : decode cX0_init 8 = .ok (.putfield 7, 3) := by decide +kernel
theorem dX0_init_11 : decode cX0_init 11 = .ok (.aload_n 0, 1) := by decide +kernel
theorem dX0_init_12 : decode cX0_init 12 = .ok (.lconst 0, 1) := by decide +kernel
theorem dX0_init_13 : decode cX0_init 13 = .ok (.putfield 13, 3) := by decide +kernel
theorem dX0_init_16 : decode cX0_init 16 = .ok (.aload_n 0, 1) := by decide +kernel
theorem dX0_init_17 : decode cX0_init 17 = .ok (.lconst 1, 1) := by decide +kernel
theorem dX0_init_18 : decode cX0_init 18 = .ok (.putfield 17, 3) := by decide +kernel
theorem dX0_init_21 : decode cX0_init 21 = .ok (.aload_n 0, 1) := by decide +kernel
theorem dX0_init_22 : decode cX0_init 22 = .ok (.iconst 0, 1) := by decide +kernel
theorem dX0_init_23 : decode cX0_init 23 = .ok (.putfield 20, 3) := by decide +kernel
theorem dX0_init_26 : decode cX0_init 26 = .ok (.aload_n 0, 1) := by decide +kernel
theorem dX0_init_27 : decode cX0_init 27 = .ok (.lconst 0, 1) := by decide +kernel
theorem dX0_init_28 : decode cX0_init 28 = .ok (.putfield 24, 3) := by decide +kernel
theorem dX0_init_31 : decode cX0_init 31 = .ok (.aload_n 0, 1) := by decide +kernel
theorem dX0_init_32 : decode cX0_init 32 = .ok (.lconst 1, 1) := by decide +kernel
theorem dX0_init_33 : decode cX0_init 33 = .ok (.putfield 27, 3) := by decide +kernel
theorem dX0_init_36 : decode cX0_init 36 = .ok (.aload_n 0, 1) := by decide +kernel
theorem dX0_init_37 : decode cX0_init 37 = .ok (.iconst 0, 1) := by decide +kernel
theorem dX0_init_38 : decode cX0_init 38 = .ok (.putfield 30, 3) := by decide +kernel
theorem dX0_init_41 : decode cX0_init 41 = .ok (.return_, 1) := by decide +kernel
theorem dX1_init_0 : decode cX1_init 0 = .ok (.aload_n 0, 1) := by decide +kernel
theorem dX1_init_1 : decode cX1_init 1 = .ok (.invokespecial 3, 3) := by decide +kernel
theorem dX1_init_4 : decode cX1_init 4 = .ok (.aload_n 0, 1) := by decide +kernel
theorem dX1_init_5 : decode cX1_init 5 = .ok (.bipush 12, 2) := by decide +kernel
theorem dX1_init_7 : decode cX1_init 7 = .ok (.anewarray 9, 3) := by decide +kernel
theorem dX1_init_10 : decode cX1_init 10 = .ok (.putfield 11, 3) := by decide +kernel
theorem dX1_init_13 : decode cX1_init 13 = .ok (.aload_n 0, 1) := by decide +kernel
theorem dX1_init_14 : decode cX1_init 14 = .ok (.iconst 0, 1) := by decide +kernel
theorem dX1_init_15 : decode cX1_init 15 = .ok (.putfield 17, 3) := by decide +kernel
theorem dX1_init_18 : decode cX1_init 18 = .ok (.aload_n 0, 1) := by decide +kernel
theorem dX1_init_19 : decode cX1_init 19 = .ok (.iconst 0, 1) := by decide +kernel
theorem dX1_init_20 : decode cX1_init 20 = .ok (.putfield 21, 3) := by decide +kernel
theorem dX1_init_23 : decode cX1_init 23 = .ok (.aload_n 0, 1) := by decide +kernel
theorem dX1_init_24 : decode cX1_init 24 = .ok (.new 9, 3) := by decide +kernel
theorem dX1_init_27 : decode cX1_init 27 = .ok (.dup, 1) := by decide +kernel
theorem dX1_init_28 : decode cX1_init 28 = .ok (.invokespecial 24, 3) := by decide +kernel
theorem dX1_init_31 : decode cX1_init 31 = .ok (.putfield 25, 3) := by decide +kernel
theorem dX1_init_34 : decode cX1_init 34 = .ok (.aload_n 0, 1) := by decide +kernel
theorem dX1_init_35 : decode cX1_init 35 = .ok (.iconst 0, 1) := by decide +kernel
theorem dX1_init_36 : decode cX1_init 36 = .ok (.putfield 29, 3) := by decide +kernel
theorem dX1_init_39 : decode cX1_init 39 = .ok (.iconst 0, 1) := by decide +kernel
theorem dX1_init_40 : decode cX1_init 40 = .ok (.istore_n 1, 1) := by decide +kernel
theorem dX1_init_41 : decode cX1_init 41 = .ok (.iload_n 1, 1) := by decide +kernel
theorem dX1_init_42 : decode cX1_init 42 = .ok (.bipush 12, 2) := by decide +kernel
theorem dX1_init_44 : decode cX1_init 44 = .ok (.if_icmp .ge 22, 3) := by decide +kernel
theorem dX1_init_47 : decode cX1_init 47 = .ok (.aload_n 0, 1) := by decide +kernel
theorem dX1_init_48 : decode cX1_init 48 = .ok (.getfield 11, 3) := by decide +kernel
theorem dX1_init_51 : decode cX1_init 51 = .ok (.iload_n 1, 1) := by decide +kernel
theorem dX1_init_52 : decode cX1_init 52 = .ok (.new 9, 3) := by decide +kernel
theorem dX1_init_55 : decode cX1_init 55 = .ok (.dup, 1) := by decide +kernel
theorem dX1_init_56 : decode cX1_init 56 = .ok (.invokespecial 24, 3) := by decide +kernel
theorem dX1_init_59 : decode cX1_init 59 = .ok (.aastore, 1) := by decide +kernel
theorem dX1_init_60 : decode cX1_init 60 = .ok (.iinc 1 1, 3) := by decide +kernel
theorem dX1_init_63 : decode cX1_init 63 = .ok (.goto (-22), 3) := by decide +kernel
theorem dX1_init_66 : decode cX1_init 66 = .ok (.return_, 1) := by decide +kernel
theorem dX1_forgetAll_0 : decode cX1_forgetAll 0 = .ok (.aload_n 0, 1) := by decide +kernel
theorem dX1_forgetAll_1 : decode cX1_forgetAll 1 = .ok (.iconst 0, 1) := by decide +kernel
theorem dX1_forgetAll_2 : decode cX1_forgetAll 2 = .ok (.putfield 21, 3) := by decide +kernel
theorem dX1_forgetAll_5 : decode cX1_forgetAll 5 = .ok (.aload_n 0, 1) := by decide +kernel
theorem dX1_forgetAll_6 : decode cX1_forgetAll 6 = .ok (.iconst 0, 1) := by decide +kernel
theorem dX1_forgetAll_7 : decode cX1_forgetAll 7 = .ok (.putfield 29, 3) := by decide +kernel
theorem dX1_forgetAll_10 : decode cX1_forgetAll 10 = .ok (.return_, 1) := by decide +kernel
theorem dX1_remember_0 : decode cX1_remember 0 = .ok (.aload_n 0, 1) := by decide +kernel
theorem dX1_remember_1 : decode cX1_remember 1 = .ok (.aload_n 0, 1) := by decide +kernel
theorem dX1_remember_2 : decode cX1_remember 2 = .ok (.getfield 17, 3) := by decide +kernel
theorem dX1_remember_5 : decode cX1_remember 5 = .ok (.iconst 1, 1) := by decide +kernel
theorem dX1_remember_6 : decode cX1_remember 6 = .ok (.iadd, 1) := by decide +kernel
theorem dX1_remember_7 : decode cX1_remember 7 = .ok (.bipush 12, 2) := by decide +kernel
theorem dX1_remember_9 : decode cX1_remember 9 = .ok (.irem, 1) := by decide +kernel
theorem dX1_remember_10 : decode cX1_remember 10 = .ok (.putfield 17, 3) := by decide +kernel
theorem dX1_remember_13 : decode cX1_remember 13 = .ok (.aload_n 0, 1) := by decide +kernel
theorem dX1_remember_14 : decode cX1_remember 14 = .ok (.getfield 11, 3) := by decide +kernel
theorem dX1_remember_17 : decode cX1_remember 17 = .ok (.aload_n 0, 1) := by decide +kernel
theorem dX1_remember_18 : decode cX1_remember 18 = .ok (.getfield 17, 3) := by decide +kernel
theorem dX1_remember_21 : decode cX1_remember 21 = .ok (.aaload, 1) := by decide +kernel
theorem dX1_remember_22 : decode cX1_remember 22 = .ok (.aload_n 1, 1) := by decide +kernel
theorem dX1_remember_23 : decode cX1_remember 23 = .ok (.invokevirtual 33, 3) := by decide +kernel
theorem dX1_remember_26 : decode cX1_remember 26 = .ok (.aload_n 0, 1) := by decide +kernel
theorem dX1_remember_27 : decode cX1_remember 27 = .ok (.aload_n 0, 1) := by decide +kernel
theorem dX1_remember_28 : decode cX1_remember 28 = .ok (.getfield 21, 3) := by decide +kernel
theorem dX1_remember_31 : decode cX1_remember 31 = .ok (.iconst 1, 1) := by decide +kernel
theorem dX1_remember_32 : decode cX1_remember 32 = .ok (.iadd, 1) := by decide +kernel
theorem dX1_remember_33 : decode cX1_remember 33 = .ok (.bipush 12, 2) := by decide +kernel
theorem dX1_remember_35 : decode cX1_remember 35 = .ok (.invokestatic 37, 3) := by decide +kernel
theorem dX1_remember_38 : decode cX1_remember 38 = .ok (.putfield 21, 3) := by decide +kernel
theorem dX1_remember_41 : decode cX1_remember 41 = .ok (.return_, 1) := by decide +kernel
theorem dX2_init_0 : decode cX2_init 0 = .ok (.aload_n 0, 1) := by decide +kernel
theorem dX2_init_1 : decode cX2_init 1 = .ok (.invokespecial 3, 3) := by decide +kernel
theorem dX2_init_4 : decode cX2_init 4 = .ok (.aload_n 0, 1) := by decide +kernel
theorem dX2_init_5 : decode cX2_init 5 = .ok (.sipush 1024, 3) := by decide +kernel
theorem dX2_init_8 : decode cX2_init 8 = .ok (.newarray .byte, 2) := by decide +kernel
theorem dX2_init_10 : decode cX2_init 10 = .ok (.putfield 9, 3) := by decide +kernel
theorem dX2_init_13 : decode cX2_init 13 = .ok (.aload_n 0, 1) := by decide +kernel
theorem dX2_init_14 : decode cX2_init 14 = .ok (.iconst 0, 1) := by decide +kernel
theorem dX2_init_15 : decode cX2_init 15 = .ok (.putfield 15, 3) := by decide +kernel
theorem dX2_init_18 : decode cX2_init 18 = .ok (.return_, 1) := by decide +kernel
theorem dX3_init_0 : decode cX3_init 0 = .ok (.aload_n 0, 1) := by decide +kernel
theorem dX3_init_1 : decode cX3_init 1 = .ok (.invokespecial 3, 3) := by decide +kernel
theorem dX3_init_4 : decode cX3_init 4 = .ok (.aload_n 0, 1) := by decide +kernel
theorem dX3_init_5 : decode cX3_init 5 = .ok (.lconst 0, 1) := by decide +kernel
theorem dX3_init_6 : decode cX3_init 6 = .ok (.putfield 9, 3) := by decide +kernel
theorem dX3_init_9 : decode cX3_init 9 = .ok (.aload_n 0, 1) := by decide +kernel
theorem dX3_init_10 : decode cX3_init 10 = .ok (.lconst 1, 1) := by decide +kernel
theorem dX3_init_11 : decode cX3_init 11 = .ok (.putfield 15, 3) := by decide +kernel
theorem dX3_init_14 : decode cX3_init 14 = .ok (.return_, 1) := by decide +kernel
theorem dX3_setTo_0 : decode cX3_setTo 0 = .ok (.lload_n 1, 1) := by decide +kernel
theorem dX3_setTo_1 : decode cX3_setTo 1 = .ok (.invokestatic 18, 3) := by decide +kernel
theorem dX3_setTo_4 : decode cX3_setTo 4 = .ok (.lload_n 3, 1) := by decide +kernel
theorem dX3_setTo_5 : decode cX3_setTo 5 = .ok (.invokestatic 24, 3) := by decide +kernel
theorem dX3_setTo_8 : decode cX3_setTo 8 = .ok (.lstore 5, 2) := by decide +kernel
theorem dX3_setTo_10 : decode cX3_setTo 10 = .ok (.aload_n 0, 1) := by decide +kernel
theorem dX3_setTo_11 : decode cX3_setTo 11 = .ok (.lload_n 1, 1) := by decide +kernel
theorem dX3_setTo_12 : decode cX3_setTo 12 = .ok (.lload 5, 2) := by decide +kernel
theorem dX3_setTo_14 : decode cX3_setTo 14 = .ok (.ldiv, 1) := by decide +kernel
theorem dX3_setTo_15 : decode cX3_setTo 15 = .ok (.putfield 9, 3) := by decide +kernel
theorem dX3_setTo_18 : decode cX3_setTo 18 = .ok (.aload_n 0, 1) := by decide +kernel
theorem dX3_setTo_19 : decode cX3_setTo 19 = .ok (.lconst 1, 1) := by decide +kernel
theorem dX3_setTo_20 : decode cX3_setTo 20 = .ok (.lload_n 3, 1) := by decide +kernel
theorem dX3_setTo_21 : decode cX3_setTo 21 = .ok (.lload 5, 2) := by decide +kernel
theorem dX3_setTo_23 : decode cX3_setTo 23 = .ok (.ldiv, 1) := by decide +kernel
theorem dX3_setTo_24 : decode cX3_setTo 24 = .ok (.invokestatic 28, 3) := by decide +kernel
theorem dX3_setTo_27 : decode cX3_setTo 27 = .ok (.putfield 15, 3) := by decide +kernel
theorem dX3_setTo_30 : decode cX3_setTo 30 = .ok (.return_, 1) := by decide +kernel
theorem dX3_addFraction_0 : decode cX3_addFraction 0 = .ok (.aload_n 0, 1) := by decide +kernel
theorem dX3_addFraction_1 : decode cX3_addFraction 1 = .ok (.aload_n 0, 1) := by decide +kernel
theorem dX3_addFraction_2 : decode cX3_addFraction 2 = .ok (.getfield 9, 3) := by decide +kernel
theorem dX3_addFraction_5 : decode cX3_addFraction 5 = .ok (.lload_n 3, 1) := by decide +kernel
theorem dX3_addFraction_6 : decode cX3_addFraction 6 = .ok (.lmul, 1) := by decide +kernel
theorem dX3_addFraction_7 : decode cX3_addFraction 7 = .ok (.lload_n 1, 1) := by decide +kernel
theorem dX3_addFraction_8 : decode cX3_addFraction 8 = .ok (.aload_n 0, 1) := by decide +kernel
theorem dX3_addFraction_9 : decode cX3_addFraction 9 = .ok (.getfield 15, 3) := by decide +kernel
theorem dX3_addFraction_12 : decode cX3_addFraction 12 = .ok (.lmul, 1) := by decide +kernel
theorem dX3_addFraction_13 : decode cX3_addFraction 13 = .ok (.ladd, 1) := by decide +kernel
theorem dX3_addFraction_14 : decode cX3_addFraction 14 = .ok (.aload_n 0, 1) := by decide +kernel
theorem dX3_addFraction_15 : decode cX3_addFraction 15 = .ok (.getfield 15, 3) := by decide +kernel
theorem dX3_addFraction_18 : decode cX3_addFraction 18 = .ok (.lload_n 3, 1) := by decide +kernel
theorem dX3_addFraction_19 : decode cX3_addFraction 19 = .ok (.lmul, 1) := by decide +kernel
theorem dX3_addFraction_20 : decode cX3_addFraction 20 = .ok (.invokevirtual 31, 3) := by decide +kernel
theorem dX3_addFraction_23 : decode cX3_addFraction 23 = .ok (.return_, 1) := by decide +kernel
theorem dX3_arcBy_0 : decode cX3_arcBy 0 = .ok (.aload_n 0, 1) := by decide +kernel
theorem dX3_arcBy_1 : decode cX3_arcBy 1 = .ok (.getfield 9, 3) := by decide +kernel
theorem dX3_arcBy_4 : decode cX3_arcBy 4 = .ok (.invokestatic 18, 3) := by decide +kernel
theorem dX3_arcBy_7 : decode cX3_arcBy 7 = .ok (.lstore_n 2, 1) := by decide +kernel
theorem dX3_arcBy_8 : decode cX3_arcBy 8 = .ok (.lload_n 2, 1) := by decide +kernel
theorem dX3_arcBy_9 : decode cX3_arcBy 9 = .ok (.aload_n 0, 1) := by decide +kernel
theorem dX3_arcBy_10 : decode cX3_arcBy 10 = .ok (.getfield 15, 3) := by decide +kernel
theorem dX3_arcBy_13 : decode cX3_arcBy 13 = .ok (.lrem, 1) := by decide +kernel
theorem dX3_arcBy_14 : decode cX3_arcBy 14 = .ok (.lstore 4, 2) := by decide +kernel
theorem dX3_arcBy_16 : decode cX3_arcBy 16 = .ok (.iload_n 1, 1) := by decide +kernel
theorem dX3_arcBy_17 : decode cX3_arcBy 17 = .ok (.i2l, 1) := by decide +kernel
theorem dX3_arcBy_18 : decode cX3_arcBy 18 = .ok (.ldc2_w 35, 3) := by decide +kernel
theorem dX3_arcBy_21 : decode cX3_arcBy 21 = .ok (.lmul, 1) := by decide +kernel
theorem dX3_arcBy_22 : decode cX3_arcBy 22 = .ok (.lstore 6, 2) := by decide +kernel
theorem dX3_arcBy_24 : decode cX3_arcBy 24 = .ok (.lconst 0, 1) := by decide +kernel
theorem dX3_arcBy_25 : decode cX3_arcBy 25 = .ok (.lstore 8, 2) := by decide +kernel
theorem dX3_arcBy_27 : decode cX3_arcBy 27 = .ok (.lconst 0, 1) := by decide +kernel
theorem dX3_arcBy_28 : decode cX3_arcBy 28 = .ok (.lstore 10, 2) := by decide +kernel
theorem dX3_arcBy_30 : decode cX3_arcBy 30 = .ok (.bipush 36, 2) := by decide +kernel
theorem dX3_arcBy_32 : decode cX3_arcBy 32 = .ok (.istore 12, 2) := by decide +kernel
theorem dX3_arcBy_34 : decode cX3_arcBy 34 = .ok (.iload 12, 2) := by decide +kernel
theorem dX3_arcBy_36 : decode cX3_arcBy 36 = .ok (.ifCond .lt 55, 3) := by decide +kernel
theorem dX3_arcBy_39 : decode cX3_arcBy 39 = .ok (.lload 10, 2) := by decide +kernel
theorem dX3_arcBy_41 : decode cX3_arcBy 41 = .ok (.ldc2_w 37, 3) := by decide +kernel
theorem dX3_arcBy_44 : decode cX3_arcBy 44 = .ok (.lmul, 1) := by decide +kernel
theorem dX3_arcBy_45 : decode cX3_arcBy 45 = .ok (.lload 4, 2) := by decide +kernel
theorem dX3_arcBy_47 : decode cX3_arcBy 47 = .ok (.lload 6, 2) := by decide +kernel
theorem dX3_arcBy_49 : decode cX3_arcBy 49 = .ok (.iload 12, 2) := by decide +kernel
theorem dX3_arcBy_51 : decode cX3_arcBy 51 = .ok (.lshr, 1) := by decide +kernel
theorem dX3_arcBy_52 : decode cX3_arcBy 52 = .ok (.ldc2_w 39, 3) := by decide +kernel
theorem dX3_arcBy_55 : decode cX3_arcBy 55 = .ok (.land, 1) := by decide +kernel
theorem dX3_arcBy_56 : decode cX3_arcBy 56 = .ok (.lmul, 1) := by decide +kernel
theorem dX3_arcBy_57 : decode cX3_arcBy 57 = .ok (.ladd, 1) := by decide +kernel
theorem dX3_arcBy_58 : decode cX3_arcBy 58 = .ok (.lstore 10, 2) := by decide +kernel
theorem dX3_arcBy_60 : decode cX3_arcBy 60 = .ok (.lload 8, 2) := by decide +kernel
theorem dX3_arcBy_62 : decode cX3_arcBy 62 = .ok (.ldc2_w 37, 3) := by decide +kernel
theorem dX3_arcBy_65 : decode cX3_arcBy 65 = .ok (.lmul, 1) := by decide +kernel
theorem dX3_arcBy_66 : decode cX3_arcBy 66 = .ok (.lload 10, 2) := by decide +kernel
theorem dX3_arcBy_68 : decode cX3_arcBy 68 = .ok (.aload_n 0, 1) := by decide +kernel
theorem dX3_arcBy_69 : decode cX3_arcBy 69 = .ok (.getfield 15, 3) := by decide +kernel
theorem dX3_arcBy_72 : decode cX3_arcBy 72 = .ok (.ldiv, 1) := by decide +kernel
theorem dX3_arcBy_73 : decode cX3_arcBy 73 = .ok (.ladd, 1) := by decide +kernel
theorem dX3_arcBy_74 : decode cX3_arcBy 74 = .ok (.lstore 8, 2) := by decide +kernel
theorem dX3_arcBy_76 : decode cX3_arcBy 76 = .ok (.lload 10, 2) := by decide +kernel
theorem dX3_arcBy_78 : decode cX3_arcBy 78 = .ok (.aload_n 0, 1) := by decide +kernel
theorem dX3_arcBy_79 : decode cX3_arcBy 79 = .ok (.getfield 15, 3) := by decide +kernel
theorem dX3_arcBy_82 : decode cX3_arcBy 82 = .ok (.lrem, 1) := by decide +kernel
theorem dX3_arcBy_83 : decode cX3_arcBy 83 = .ok (.lstore 10, 2) := by decide +kernel
theorem dX3_arcBy_85 : decode cX3_arcBy 85 = .ok (.iinc 12 (-12), 3) := by decide +kernel
theorem dX3_arcBy_88 : decode cX3_arcBy 88 = .ok (.goto (-54), 3) := by decide +kernel
theorem dX3_arcBy_91 : decode cX3_arcBy 91 = .ok (.lload_n 2, 1) := by decide +kernel
theorem dX3_arcBy_92 : decode cX3_arcBy 92 = .ok (.aload_n 0, 1) := by decide +kernel
theorem dX3_arcBy_93 : decode cX3_arcBy 93 = .ok (.getfield 15, 3) := by decide +kernel
theorem dX3_arcBy_96 : decode cX3_arcBy 96 = .ok (.ldiv, 1) := by decide +kernel
theorem dX3_arcBy_97 : decode cX3_arcBy 97 = .ok (.lload 6, 2) := by decide +kernel
theorem dX3_arcBy_99 : decode cX3_arcBy 99 = .ok (.lmul, 1) := by decide +kernel
theorem dX3_arcBy_100 : decode cX3_arcBy 100 = .ok (.lload 8, 2) := by decide +kernel
theorem dX3_arcBy_102 : decode cX3_arcBy 102 = .ok (.ladd, 1) := by decide +kernel
theorem dX3_arcBy_103 : decode cX3_arcBy 103 = .ok (.lstore 12, 2) := by decide +kernel
theorem dX3_arcBy_105 : decode cX3_arcBy 105 = .ok (.aload_n 0, 1) := by decide +kernel
theorem dX3_arcBy_106 : decode cX3_arcBy 106 = .ok (.getfield 9, 3) := by decide +kernel
theorem dX3_arcBy_109 : decode cX3_arcBy 109 = .ok (.lconst 0, 1) := by decide +kernel
theorem dX3_arcBy_110 : decode cX3_arcBy 110 = .ok (.lcmp, 1) := by decide +kernel
theorem dX3_arcBy_111 : decode cX3_arcBy 111 = .ok (.ifCond .ge 9, 3) := by decide +kernel
theorem dX3_arcBy_114 : decode cX3_arcBy 114 = .ok (.lload 12, 2) := by decide +kernel
theorem dX3_arcBy_116 : decode cX3_arcBy 116 = .ok (.lneg, 1) := by decide +kernel
theorem dX3_arcBy_117 : decode cX3_arcBy 117 = .ok (.goto 5, 3) := by decide +kernel
theorem dX3_arcBy_120 : decode cX3_arcBy 120 = .ok (.lload 12, 2) := by decide +kernel
theorem dX3_arcBy_122 : decode cX3_arcBy 122 = .ok (.lreturn, 1) := by decide +kernel
theorem dX3_wholeTurnsBy_0 : decode cX3_wholeTurnsBy 0 = .ok (.aload_n 0, 1) := by decide +kernel
theorem dX3_wholeTurnsBy_1 : decode cX3_wholeTurnsBy 1 = .ok (.getfield 9, 3) := by decide +kernel
theorem dX3_wholeTurnsBy_4 : decode cX3_wholeTurnsBy 4 = .ok (.iload_n 1, 1) := by decide +kernel
theorem dX3_wholeTurnsBy_5 : decode cX3_wholeTurnsBy 5 = .ok (.i2l, 1) := by decide +kernel
theorem dX3_wholeTurnsBy_6 : decode cX3_wholeTurnsBy 6 = .ok (.lmul, 1) := by decide +kernel
theorem dX3_wholeTurnsBy_7 : decode cX3_wholeTurnsBy 7 = .ok (.aload_n 0, 1) := by decide +kernel
theorem dX3_wholeTurnsBy_8 : decode cX3_wholeTurnsBy 8 = .ok (.getfield 15, 3) := by decide +kernel
theorem dX3_wholeTurnsBy_11 : decode cX3_wholeTurnsBy 11 = .ok (.invokestatic 41, 3) := by decide +kernel
theorem dX3_wholeTurnsBy_14 : decode cX3_wholeTurnsBy 14 = .ok (.lreturn, 1) := by decide +kernel
theorem dX3_angleBy_0 : decode cX3_angleBy 0 = .ok (.aload_n 0, 1) := by decide +kernel
theorem dX3_angleBy_1 : decode cX3_angleBy 1 = .ok (.getfield 9, 3) := by decide +kernel
theorem dX3_angleBy_4 : decode cX3_angleBy 4 = .ok (.iload_n 1, 1) := by decide +kernel
theorem dX3_angleBy_5 : decode cX3_angleBy 5 = .ok (.i2l, 1) := by decide +kernel
theorem dX3_angleBy_6 : decode cX3_angleBy 6 = .ok (.lmul, 1) := by decide +kernel
theorem dX3_angleBy_7 : decode cX3_angleBy 7 = .ok (.aload_n 0, 1) := by decide +kernel
theorem dX3_angleBy_8 : decode cX3_angleBy 8 = .ok (.getfield 15, 3) := by decide +kernel
theorem dX3_angleBy_11 : decode cX3_angleBy 11 = .ok (.invokestatic 44, 3) := by decide +kernel
theorem dX3_angleBy_14 : decode cX3_angleBy 14 = .ok (.ldc2_w 35, 3) := by decide +kernel
theorem dX3_angleBy_17 : decode cX3_angleBy 17 = .ok (.lmul, 1) := by decide +kernel
theorem dX3_angleBy_18 : decode cX3_angleBy 18 = .ok (.aload_n 0, 1) := by decide +kernel
theorem dX3_angleBy_19 : decode cX3_angleBy 19 = .ok (.getfield 15, 3) := by decide +kernel
theorem dX3_angleBy_22 : decode cX3_angleBy 22 = .ok (.ldiv, 1) := by decide +kernel
theorem dX3_angleBy_23 : decode cX3_angleBy 23 = .ok (.l2i, 1) := by decide +kernel
theorem dX3_angleBy_24 : decode cX3_angleBy 24 = .ok (.ireturn, 1) := by decide +kernel
theorem dX3_drumBy_0 : decode cX3_drumBy 0 = .ok (.aload_n 0, 1) := by decide +kernel
theorem dX3_drumBy_1 : decode cX3_drumBy 1 = .ok (.iload_n 1, 1) := by decide +kernel
theorem dX3_drumBy_2 : decode cX3_drumBy 2 = .ok (.invokevirtual 47, 3) := by decide +kernel
theorem dX3_drumBy_5 : decode cX3_drumBy 5 = .ok (.ldc2_w 35, 3) := by decide +kernel
theorem dX3_drumBy_8 : decode cX3_drumBy 8 = .ok (.lmul, 1) := by decide +kernel
theorem dX3_drumBy_9 : decode cX3_drumBy 9 = .ok (.aload_n 0, 1) := by decide +kernel
theorem dX3_drumBy_10 : decode cX3_drumBy 10 = .ok (.iload_n 1, 1) := by decide +kernel
theorem dX3_drumBy_11 : decode cX3_drumBy 11 = .ok (.invokevirtual 51, 3) := by decide +kernel
theorem dX3_drumBy_14 : decode cX3_drumBy 14 = .ok (.i2l, 1) := by decide +kernel
theorem dX3_drumBy_15 : decode cX3_drumBy 15 = .ok (.ladd, 1) := by decide +kernel
theorem dX3_drumBy_16 : decode cX3_drumBy 16 = .ok (.lreturn, 1) := by decide +kernel
theorem dX3_commonDivisor_0 : decode cX3_commonDivisor 0 = .ok (.lload_n 0, 1) := by decide +kernel
theorem dX3_commonDivisor_1 : decode cX3_commonDivisor 1 = .ok (.lstore 4, 2) := by decide +kernel
theorem dX3_commonDivisor_3 : decode cX3_commonDivisor 3 = .ok (.lload_n 2, 1) := by decide +kernel
theorem dX3_commonDivisor_4 : decode cX3_commonDivisor 4 = .ok (.lstore 6, 2) := by decide +kernel
theorem dX3_commonDivisor_6 : decode cX3_commonDivisor 6 = .ok (.iconst 0, 1) := by decide +kernel
theorem dX3_commonDivisor_7 : decode cX3_commonDivisor 7 = .ok (.istore 8, 2) := by decide +kernel
theorem dX3_commonDivisor_9 : decode cX3_commonDivisor 9 = .ok (.iload 8, 2) := by decide +kernel
theorem dX3_commonDivisor_11 : decode cX3_commonDivisor 11 = .ok (.sipush 200, 3) := by decide +kernel
theorem dX3_commonDivisor_14 : decode cX3_commonDivisor 14 = .ok (.if_icmp .ge 31, 3) := by decide +kernel
theorem dX3_commonDivisor_17 : decode cX3_commonDivisor 17 = .ok (.lload 6, 2) := by decide +kernel
theorem dX3_commonDivisor_19 : decode cX3_commonDivisor 19 = .ok (.lconst 0, 1) := by decide +kernel
theorem dX3_commonDivisor_20 : decode cX3_commonDivisor 20 = .ok (.lcmp, 1) := by decide +kernel
theorem dX3_commonDivisor_21 : decode cX3_commonDivisor 21 = .ok (.ifCond .eq 24, 3) := by decide +kernel
theorem dX3_commonDivisor_24 : decode cX3_commonDivisor 24 = .ok (.lload 4, 2) := by decide +kernel
theorem dX3_commonDivisor_26 : decode cX3_commonDivisor 26 = .ok (.lload 6, 2) := by decide +kernel
theorem dX3_commonDivisor_28 : decode cX3_commonDivisor 28 = .ok (.lrem, 1) := by decide +kernel
theorem dX3_commonDivisor_29 : decode cX3_commonDivisor 29 = .ok (.lstore 9, 2) := by decide +kernel
theorem dX3_commonDivisor_31 : decode cX3_commonDivisor 31 = .ok (.lload 6, 2) := by decide +kernel
theorem dX3_commonDivisor_33 : decode cX3_commonDivisor 33 = .ok (.lstore 4, 2) := by decide +kernel
theorem dX3_commonDivisor_35 : decode cX3_commonDivisor 35 = .ok (.lload 9, 2) := by decide +kernel
theorem dX3_commonDivisor_37 : decode cX3_commonDivisor 37 = .ok (.lstore 6, 2) := by decide +kernel
theorem dX3_commonDivisor_39 : decode cX3_commonDivisor 39 = .ok (.iinc 8 1, 3) := by decide +kernel
theorem dX3_commonDivisor_42 : decode cX3_commonDivisor 42 = .ok (.goto (-33), 3) := by decide +kernel
theorem dX3_commonDivisor_45 : decode cX3_commonDivisor 45 = .ok (.lload 4, 2) := by decide +kernel
theorem dX3_commonDivisor_47 : decode cX3_commonDivisor 47 = .ok (.lconst 0, 1) := by decide +kernel
theorem dX3_commonDivisor_48 : decode cX3_commonDivisor 48 = .ok (.lcmp, 1) := by decide +kernel
theorem dX3_commonDivisor_49 : decode cX3_commonDivisor 49 = .ok (.ifCond .le 8, 3) := by decide +kernel
theorem dX3_commonDivisor_52 : decode cX3_commonDivisor 52 = .ok (.lload 4, 2) := by decide +kernel
theorem dX3_commonDivisor_54 : decode cX3_commonDivisor 54 = .ok (.goto 4, 3) := by decide +kernel
theorem dX3_commonDivisor_57 : decode cX3_commonDivisor 57 = .ok (.lconst 1, 1) := by decide +kernel
theorem dX3_commonDivisor_58 : decode cX3_commonDivisor 58 = .ok (.lreturn, 1) := by decide +kernel
theorem dX4_init_0 : decode cX4_init 0 = .ok (.aload_n 0, 1) := by decide +kernel
theorem dX4_init_1 : decode cX4_init 1 = .ok (.invokespecial 3, 3) := by decide +kernel
theorem dX4_init_4 : decode cX4_init 4 = .ok (.aload_n 0, 1) := by decide +kernel
theorem dX4_init_5 : decode cX4_init 5 = .ok (.sipush 2000, 3) := by decide +kernel
theorem dX4_init_8 : decode cX4_init 8 = .ok (.putfield 9, 3) := by decide +kernel
theorem dX4_init_11 : decode cX4_init 11 = .ok (.aload_n 0, 1) := by decide +kernel
theorem dX4_init_12 : decode cX4_init 12 = .ok (.iconst 0, 1) := by decide +kernel
theorem dX4_init_13 : decode cX4_init 13 = .ok (.putfield 15, 3) := by decide +kernel
theorem dX4_init_16 : decode cX4_init 16 = .ok (.aload_n 0, 1) := by decide +kernel
theorem dX4_init_17 : decode cX4_init 17 = .ok (.bipush 8, 2) := by decide +kernel
theorem dX4_init_19 : decode cX4_init 19 = .ok (.newarray .long, 2) := by decide +kernel
theorem dX4_init_21 : decode cX4_init 21 = .ok (.putfield 18, 3) := by decide +kernel
theorem dX4_init_24 : decode cX4_init 24 = .ok (.aload_n 0, 1) := by decide +kernel
theorem dX4_init_25 : decode cX4_init 25 = .ok (.bipush 8, 2) := by decide +kernel
theorem dX4_init_27 : decode cX4_init 27 = .ok (.newarray .int, 2) := by decide +kernel
theorem dX4_init_29 : decode cX4_init 29 = .ok (.putfield 22, 3) := by decide +kernel
theorem dX4_init_32 : decode cX4_init 32 = .ok (.aload_n 0, 1) := by decide +kernel
theorem dX4_init_33 : decode cX4_init 33 = .ok (.bipush 8, 2) := by decide +kernel
theorem dX4_init_35 : decode cX4_init 35 = .ok (.newarray .boolean, 2) := by decide +kernel
theorem dX4_init_37 : decode cX4_init 37 = .ok (.putfield 26, 3) := by decide +kernel
theorem dX4_init_40 : decode cX4_init 40 = .ok (.aload_n 0, 1) := by decide +kernel
theorem dX4_init_41 : decode cX4_init 41 = .ok (.bipush 8, 2) := by decide +kernel
theorem dX4_init_43 : decode cX4_init 43 = .ok (.newarray .int, 2) := by decide +kernel
theorem dX4_init_45 : decode cX4_init 45 = .ok (.putfield 30, 3) := by decide +kernel
theorem dX4_init_48 : decode cX4_init 48 = .ok (.return_, 1) := by decide +kernel
theorem dX4_clearAll_0 : decode cX4_clearAll 0 = .ok (.aload_n 0, 1) := by decide +kernel
theorem dX4_clearAll_1 : decode cX4_clearAll 1 = .ok (.sipush 2000, 3) := by decide +kernel
theorem dX4_clearAll_4 : decode cX4_clearAll 4 = .ok (.putfield 9, 3) := by decide +kernel
theorem dX4_clearAll_7 : decode cX4_clearAll 7 = .ok (.aload_n 0, 1) := by decide +kernel
theorem dX4_clearAll_8 : decode cX4_clearAll 8 = .ok (.iconst 0, 1) := by decide +kernel
theorem dX4_clearAll_9 : decode cX4_clearAll 9 = .ok (.putfield 15, 3) := by decide +kernel
theorem dX4_clearAll_12 : decode cX4_clearAll 12 = .ok (.return_, 1) := by decide +kernel
theorem dX4_copyFrom_0 : decode cX4_copyFrom 0 = .ok (.aload_n 0, 1) := by decide +kernel
theorem dX4_copyFrom_1 : decode cX4_copyFrom 1 = .ok (.aload_n 1, 1) := by decide +kernel
theorem dX4_copyFrom_2 : decode cX4_copyFrom 2 = .ok (.getfield 9, 3) := by decide +kernel
theorem dX4_copyFrom_5 : decode cX4_copyFrom 5 = .ok (.putfield 9, 3) := by decide +kernel
theorem dX4_copyFrom_8 : decode cX4_copyFrom 8 = .ok (.aload_n 0, 1) := by decide +kernel
theorem dX4_copyFrom_9 : decode cX4_copyFrom 9 = .ok (.aload_n 1, 1) := by decide +kernel
theorem dX4_copyFrom_10 : decode cX4_copyFrom 10 = .ok (.getfield 15, 3) := by decide +kernel
theorem dX4_copyFrom_13 : decode cX4_copyFrom 13 = .ok (.putfield 15, 3) := by decide +kernel
theorem dX4_copyFrom_16 : decode cX4_copyFrom 16 = .ok (.aload_n 1, 1) := by decide +kernel
theorem dX4_copyFrom_17 : decode cX4_copyFrom 17 = .ok (.getfield 18, 3) := by decide +kernel
theorem dX4_copyFrom_20 : decode cX4_copyFrom 20 = .ok (.iconst 0, 1) := by decide +kernel
theorem dX4_copyFrom_21 : decode cX4_copyFrom 21 = .ok (.aload_n 0, 1) := by decide +kernel
theorem dX4_copyFrom_22 : decode cX4_copyFrom 22 = .ok (.getfield 18, 3) := by decide +kernel
theorem dX4_copyFrom_25 : decode cX4_copyFrom 25 = .ok (.iconst 0, 1) := by decide +kernel
theorem dX4_copyFrom_26 : decode cX4_copyFrom 26 = .ok (.bipush 8, 2) := by decide +kernel
theorem dX4_copyFrom_28 : decode cX4_copyFrom 28 = .ok (.invokestatic 33, 3) := by decide +kernel
theorem dX4_copyFrom_31 : decode cX4_copyFrom 31 = .ok (.aload_n 1, 1) := by decide +kernel
theorem dX4_copyFrom_32 : decode cX4_copyFrom 32 = .ok (.getfield 22, 3) := by decide +kernel
theorem dX4_copyFrom_35 : decode cX4_copyFrom 35 = .ok (.iconst 0, 1) := by decide +kernel
theorem dX4_copyFrom_36 : decode cX4_copyFrom 36 = .ok (.aload_n 0, 1) := by decide +kernel
theorem dX4_copyFrom_37 : decode cX4_copyFrom 37 = .ok (.getfield 22, 3) := by decide +kernel
theorem dX4_copyFrom_40 : decode cX4_copyFrom 40 = .ok (.iconst 0, 1) := by decide +kernel
theorem dX4_copyFrom_41 : decode cX4_copyFrom 41 = .ok (.bipush 8, 2) := by decide +kernel
theorem dX4_copyFrom_43 : decode cX4_copyFrom 43 = .ok (.invokestatic 33, 3) := by decide +kernel
theorem dX4_copyFrom_46 : decode cX4_copyFrom 46 = .ok (.aload_n 1, 1) := by decide +kernel
theorem dX4_copyFrom_47 : decode cX4_copyFrom 47 = .ok (.getfield 26, 3) := by decide +kernel
theorem dX4_copyFrom_50 : decode cX4_copyFrom 50 = .ok (.iconst 0, 1) := by decide +kernel
theorem dX4_copyFrom_51 : decode cX4_copyFrom 51 = .ok (.aload_n 0, 1) := by decide +kernel
theorem dX4_copyFrom_52 : decode cX4_copyFrom 52 = .ok (.getfield 26, 3) := by decide +kernel
theorem dX4_copyFrom_55 : decode cX4_copyFrom 55 = .ok (.iconst 0, 1) := by decide +kernel
theorem dX4_copyFrom_56 : decode cX4_copyFrom 56 = .ok (.bipush 8, 2) := by decide +kernel
theorem dX4_copyFrom_58 : decode cX4_copyFrom 58 = .ok (.invokestatic 33, 3) := by decide +kernel
theorem dX4_copyFrom_61 : decode cX4_copyFrom 61 = .ok (.aload_n 1, 1) := by decide +kernel
theorem dX4_copyFrom_62 : decode cX4_copyFrom 62 = .ok (.getfield 30, 3) := by decide +kernel
theorem dX4_copyFrom_65 : decode cX4_copyFrom 65 = .ok (.iconst 0, 1) := by decide +kernel
theorem dX4_copyFrom_66 : decode cX4_copyFrom 66 = .ok (.aload_n 0, 1) := by decide +kernel
theorem dX4_copyFrom_67 : decode cX4_copyFrom 67 = .ok (.getfield 30, 3) := by decide +kernel
theorem dX4_copyFrom_70 : decode cX4_copyFrom 70 = .ok (.iconst 0, 1) := by decide +kernel
theorem dX4_copyFrom_71 : decode cX4_copyFrom 71 = .ok (.bipush 8, 2) := by decide +kernel
theorem dX4_copyFrom_73 : decode cX4_copyFrom 73 = .ok (.invokestatic 33, 3) := by decide +kernel
theorem dX4_copyFrom_76 : decode cX4_copyFrom 76 = .ok (.return_, 1) := by decide +kernel
theorem dX4_takeBody_0 : decode cX4_takeBody 0 = .ok (.aload_n 0, 1) := by decide +kernel
theorem dX4_takeBody_1 : decode cX4_takeBody 1 = .ok (.getfield 15, 3) := by decide +kernel
theorem dX4_takeBody_4 : decode cX4_takeBody 4 = .ok (.bipush 8, 2) := by decide +kernel
theorem dX4_takeBody_6 : decode cX4_takeBody 6 = .ok (.if_icmp .ge 55, 3) := by decide +kernel
theorem dX4_takeBody_9 : decode cX4_takeBody 9 = .ok (.aload_n 0, 1) := by decide +kernel
theorem dX4_takeBody_10 : decode cX4_takeBody 10 = .ok (.getfield 18, 3) := by decide +kernel
theorem dX4_takeBody_13 : decode cX4_takeBody 13 = .ok (.aload_n 0, 1) := by decide +kernel
theorem dX4_takeBody_14 : decode cX4_takeBody 14 = .ok (.getfield 15, 3) := by decide +kernel
theorem dX4_takeBody_17 : decode cX4_takeBody 17 = .ok (.lload_n 1, 1) := by decide +kernel
theorem dX4_takeBody_18 : decode cX4_takeBody 18 = .ok (.lastore, 1) := by decide +kernel
theorem dX4_takeBody_19 : decode cX4_takeBody 19 = .ok (.aload_n 0, 1) := by decide +kernel
theorem dX4_takeBody_20 : decode cX4_takeBody 20 = .ok (.getfield 22, 3) := by decide +kernel
theorem dX4_takeBody_23 : decode cX4_takeBody 23 = .ok (.aload_n 0, 1) := by decide +kernel
theorem dX4_takeBody_24 : decode cX4_takeBody 24 = .ok (.getfield 15, 3) := by decide +kernel
theorem dX4_takeBody_27 : decode cX4_takeBody 27 = .ok (.iload_n 3, 1) := by decide +kernel
theorem dX4_takeBody_28 : decode cX4_takeBody 28 = .ok (.iastore, 1) := by decide +kernel
theorem dX4_takeBody_29 : decode cX4_takeBody 29 = .ok (.aload_n 0, 1) := by decide +kernel
theorem dX4_takeBody_30 : decode cX4_takeBody 30 = .ok (.getfield 26, 3) := by decide +kernel
theorem dX4_takeBody_33 : decode cX4_takeBody 33 = .ok (.aload_n 0, 1) := by decide +kernel
theorem dX4_takeBody_34 : decode cX4_takeBody 34 = .ok (.getfield 15, 3) := by decide +kernel
theorem dX4_takeBody_37 : decode cX4_takeBody 37 = .ok (.iload 4, 2) := by decide +kernel
theorem dX4_takeBody_39 : decode cX4_takeBody 39 = .ok (.bastore, 1) := by decide +kernel
theorem dX4_takeBody_40 : decode cX4_takeBody 40 = .ok (.aload_n 0, 1) := by decide +kernel
theorem dX4_takeBody_41 : decode cX4_takeBody 41 = .ok (.getfield 30, 3) := by decide +kernel
theorem dX4_takeBody_44 : decode cX4_takeBody 44 = .ok (.aload_n 0, 1) := by decide +kernel
theorem dX4_takeBody_45 : decode cX4_takeBody 45 = .ok (.getfield 15, 3) := by decide +kernel
theorem dX4_takeBody_48 : decode cX4_takeBody 48 = .ok (.iload 5, 2) := by decide +kernel
theorem dX4_takeBody_50 : decode cX4_takeBody 50 = .ok (.iastore, 1) := by decide +kernel
theorem dX4_takeBody_51 : decode cX4_takeBody 51 = .ok (.aload_n 0, 1) := by decide +kernel
theorem dX4_takeBody_52 : decode cX4_takeBody 52 = .ok (.dup, 1) := by decide +kernel
theorem dX4_takeBody_53 : decode cX4_takeBody 53 = .ok (.getfield 15, 3) := by decide +kernel
theorem dX4_takeBody_56 : decode cX4_takeBody 56 = .ok (.iconst 1, 1) := by decide +kernel
theorem dX4_takeBody_57 : decode cX4_takeBody 57 = .ok (.iadd, 1) := by decide +kernel
theorem dX4_takeBody_58 : decode cX4_takeBody 58 = .ok (.putfield 15, 3) := by decide +kernel
theorem dX4_takeBody_61 : decode cX4_takeBody 61 = .ok (.return_, 1) := by decide +kernel
theorem dX4_placeOf_0 : decode cX4_placeOf 0 = .ok (.iconst 0, 1) := by decide +kernel
theorem dX4_placeOf_1 : decode cX4_placeOf 1 = .ok (.istore_n 3, 1) := by decide +kernel
theorem dX4_placeOf_2 : decode cX4_placeOf 2 = .ok (.iload_n 3, 1) := by decide +kernel
theorem dX4_placeOf_3 : decode cX4_placeOf 3 = .ok (.aload_n 0, 1) := by decide +kernel
theorem dX4_placeOf_4 : decode cX4_placeOf 4 = .ok (.getfield 15, 3) := by decide +kernel
theorem dX4_placeOf_7 : decode cX4_placeOf 7 = .ok (.if_icmp .ge 22, 3) := by decide +kernel
theorem dX4_placeOf_10 : decode cX4_placeOf 10 = .ok (.aload_n 0, 1) := by decide +kernel
theorem dX4_placeOf_11 : decode cX4_placeOf 11 = .ok (.getfield 18, 3) := by decide +kernel
theorem dX4_placeOf_14 : decode cX4_placeOf 14 = .ok (.iload_n 3, 1) := by decide +kernel
theorem dX4_placeOf_15 : decode cX4_placeOf 15 = .ok (.laload, 1) := by decide +kernel
theorem dX4_placeOf_16 : decode cX4_placeOf 16 = .ok (.lload_n 1, 1) := by decide +kernel
theorem dX4_placeOf_17 : decode cX4_placeOf 17 = .ok (.lcmp, 1) := by decide +kernel
theorem dX4_placeOf_18 : decode cX4_placeOf 18 = .ok (.ifCond .ne 5, 3) := by decide +kernel
theorem dX4_placeOf_21 : decode cX4_placeOf 21 = .ok (.iload_n 3, 1) := by decide +kernel
theorem dX4_placeOf_22 : decode cX4_placeOf 22 = .ok (.ireturn, 1) := by decide +kernel
theorem dX4_placeOf_23 : decode cX4_placeOf 23 = .ok (.iinc 3 1, 3) := by decide +kernel
theorem dX4_placeOf_26 : decode cX4_placeOf 26 = .ok (.goto (-24), 3) := by decide +kernel
theorem dX4_placeOf_29 : decode cX4_placeOf 29 = .ok (.iconst (-1), 1) := by decide +kernel
theorem dX4_placeOf_30 : decode cX4_placeOf 30 = .ok (.ireturn, 1) := by decide +kernel
theorem dX4_rateTop_0 : decode cX4_rateTop 0 = .ok (.aload_n 0, 1) := by decide +kernel
theorem dX4_rateTop_1 : decode cX4_rateTop 1 = .ok (.getfield 26, 3) := by decide +kernel
theorem dX4_rateTop_4 : decode cX4_rateTop 4 = .ok (.iload_n 1, 1) := by decide +kernel
theorem dX4_rateTop_5 : decode cX4_rateTop 5 = .ok (.baload, 1) := by decide +kernel
theorem dX4_rateTop_6 : decode cX4_rateTop 6 = .ok (.ifCond .eq 9, 3) := by decide +kernel
theorem dX4_rateTop_9 : decode cX4_rateTop 9 = .ok (.ldc2_w 39, 3) := by decide +kernel
theorem dX4_rateTop_12 : decode cX4_rateTop 12 = .ok (.goto 6, 3) := by decide +kernel
theorem dX4_rateTop_15 : decode cX4_rateTop 15 = .ok (.ldc2_w 41, 3) := by decide +kernel
theorem dX4_rateTop_18 : decode cX4_rateTop 18 = .ok (.lreturn, 1) := by decide +kernel
theorem dX5_init_0 : decode cX5_init 0 = .ok (.aload_n 0, 1) := by decide +kernel
theorem dX5_init_1 : decode cX5_init 1 = .ok (.invokespecial 3, 3) := by decide +kernel
theorem dX5_init_4 : decode cX5_init 4 = .ok (.aload_n 0, 1) := by decide +kernel
theorem dX5_init_5 : decode cX5_init 5 = .ok (.new 9, 3) := by decide +kernel
theorem dX5_init_8 : decode cX5_init 8 = .ok (.dup, 1) := by decide +kernel
theorem dX5_init_9 : decode cX5_init 9 = .ok (.invokespecial 11, 3) := by decide +kernel
theorem dX5_init_12 : decode cX5_init 12 = .ok (.putfield 12, 3) := by decide +kernel
theorem dX5_init_15 : decode cX5_init 15 = .ok (.aload_n 0, 1) := by decide +kernel
theorem dX5_init_16 : decode cX5_init 16 = .ok (.new 18, 3) := by decide +kernel
theorem dX5_init_19 : decode cX5_init 19 = .ok (.dup, 1) := by decide +kernel
theorem dX5_init_20 : decode cX5_init 20 = .ok (.invokespecial 20, 3) := by decide +kernel
theorem dX5_init_23 : decode cX5_init 23 = .ok (.putfield 21, 3) := by decide +kernel
theorem dX5_init_26 : decode cX5_init 26 = .ok (.aload_n 0, 1) := by decide +kernel
theorem dX5_init_27 : decode cX5_init 27 = .ok (.new 25, 3) := by decide +kernel
theorem dX5_init_30 : decode cX5_init 30 = .ok (.dup, 1) := by decide +kernel
theorem dX5_init_31 : decode cX5_init 31 = .ok (.invokespecial 27, 3) := by decide +kernel
theorem dX5_init_34 : decode cX5_init 34 = .ok (.putfield 28, 3) := by decide +kernel
theorem dX5_init_37 : decode cX5_init 37 = .ok (.aload_n 0, 1) := by decide +kernel
theorem dX5_init_38 : decode cX5_init 38 = .ok (.iconst 0, 1) := by decide +kernel
theorem dX5_init_39 : decode cX5_init 39 = .ok (.putfield 32, 3) := by decide +kernel
theorem dX5_init_42 : decode cX5_init 42 = .ok (.aload_n 0, 1) := by decide +kernel
theorem dX5_init_43 : decode cX5_init 43 = .ok (.iconst (-1), 1) := by decide +kernel
theorem dX5_init_44 : decode cX5_init 44 = .ok (.putfield 36, 3) := by decide +kernel
theorem dX5_init_47 : decode cX5_init 47 = .ok (.aload_n 0, 1) := by decide +kernel
theorem dX5_init_48 : decode cX5_init 48 = .ok (.iconst 0, 1) := by decide +kernel
theorem dX5_init_49 : decode cX5_init 49 = .ok (.putfield 39, 3) := by decide +kernel
theorem dX5_init_52 : decode cX5_init 52 = .ok (.aload_n 0, 1) := by decide +kernel
theorem dX5_init_53 : decode cX5_init 53 = .ok (.iconst 0, 1) := by decide +kernel
theorem dX5_init_54 : decode cX5_init 54 = .ok (.putfield 43, 3) := by decide +kernel
theorem dX5_init_57 : decode cX5_init 57 = .ok (.aload_n 0, 1) := by decide +kernel
theorem dX5_init_58 : decode cX5_init 58 = .ok (.iconst 0, 1) := by decide +kernel
theorem dX5_init_59 : decode cX5_init 59 = .ok (.putfield 46, 3) := by decide +kernel
theorem dX5_init_62 : decode cX5_init 62 = .ok (.return_, 1) := by decide +kernel
theorem dX5_readText_0 : decode cX5_readText 0 = .ok (.aload_n 0, 1) := by decide +kernel
theorem dX5_readText_1 : decode cX5_readText 1 = .ok (.iconst 0, 1) := by decide +kernel
theorem dX5_readText_2 : decode cX5_readText 2 = .ok (.putfield 32, 3) := by decide +kernel
theorem dX5_readText_5 : decode cX5_readText 5 = .ok (.aload_n 0, 1) := by decide +kernel
theorem dX5_readText_6 : decode cX5_readText 6 = .ok (.iconst (-1), 1) := by decide +kernel
theorem dX5_readText_7 : decode cX5_readText 7 = .ok (.putfield 36, 3) := by decide +kernel
theorem dX5_readText_10 : decode cX5_readText 10 = .ok (.aload_n 0, 1) := by decide +kernel
theorem dX5_readText_11 : decode cX5_readText 11 = .ok (.getfield 21, 3) := by decide +kernel
theorem dX5_readText_14 : decode cX5_readText 14 = .ok (.invokevirtual 49, 3) := by decide +kernel
theorem dX5_readText_17 : decode cX5_readText 17 = .ok (.aload_n 0, 1) := by decide +kernel
theorem dX5_readText_18 : decode cX5_readText 18 = .ok (.getfield 28, 3) := by decide +kernel
theorem dX5_readText_21 : decode cX5_readText 21 = .ok (.invokevirtual 52, 3) := by decide +kernel
theorem dX5_readText_24 : decode cX5_readText 24 = .ok (.aload_n 0, 1) := by decide +kernel
theorem dX5_readText_25 : decode cX5_readText 25 = .ok (.iconst 0, 1) := by decide +kernel
theorem dX5_readText_26 : decode cX5_readText 26 = .ok (.putfield 39, 3) := by decide +kernel
theorem dX5_readText_29 : decode cX5_readText 29 = .ok (.aload_n 0, 1) := by decide +kernel
theorem dX5_readText_30 : decode cX5_readText 30 = .ok (.iconst 0, 1) := by decide +kernel
theorem dX5_readText_31 : decode cX5_readText 31 = .ok (.putfield 43, 3) := by decide +kernel
theorem dX5_readText_34 : decode cX5_readText 34 = .ok (.aload_n 0, 1) := by decide +kernel
theorem dX5_readText_35 : decode cX5_readText 35 = .ok (.iconst 0, 1) := by decide +kernel
theorem dX5_readText_36 : decode cX5_readText 36 = .ok (.putfield 46, 3) := by decide +kernel
theorem dX5_readText_39 : decode cX5_readText 39 = .ok (.aload_n 0, 1) := by decide +kernel
theorem dX5_readText_40 : decode cX5_readText 40 = .ok (.getfield 12, 3) := by decide +kernel
theorem dX5_readText_43 : decode cX5_readText 43 = .ok (.invokevirtual 53, 3) := by decide +kernel
theorem dX5_readText_46 : decode cX5_readText 46 = .ok (.iconst 1, 1) := by decide +kernel
theorem dX5_readText_47 : decode cX5_readText 47 = .ok (.istore_n 1, 1) := by decide +kernel
theorem dX5_readText_48 : decode cX5_readText 48 = .ok (.iconst 0, 1) := by decide +kernel
theorem dX5_readText_49 : decode cX5_readText 49 = .ok (.istore_n 2, 1) := by decide +kernel
theorem dX5_readText_50 : decode cX5_readText 50 = .ok (.iload_n 2, 1) := by decide +kernel
theorem dX5_readText_51 : decode cX5_readText 51 = .ok (.sipush 900, 3) := by decide +kernel
theorem dX5_readText_54 : decode cX5_readText 54 = .ok (.if_icmp .ge 43, 3) := by decide +kernel
theorem dX5_readText_57 : decode cX5_readText 57 = .ok (.iload_n 1, 1) := by decide +kernel
theorem dX5_readText_58 : decode cX5_readText 58 = .ok (.ifCond .eq 39, 3) := by decide +kernel
theorem dX5_readText_61 : decode cX5_readText 61 = .ok (.aload_n 0, 1) := by decide +kernel
theorem dX5_readText_62 : decode cX5_readText 62 = .ok (.getfield 12, 3) := by decide +kernel
theorem dX5_readText_65 : decode cX5_readText 65 = .ok (.getfield 56, 3) := by decide +kernel
theorem dX5_readText_68 : decode cX5_readText 68 = .ok (.ifCond .eq 29, 3) := by decide +kernel
theorem dX5_readText_71 : decode cX5_readText 71 = .ok (.aload_n 0, 1) := by decide +kernel
theorem dX5_readText_72 : decode cX5_readText 72 = .ok (.invokevirtual 59, 3) := by decide +kernel
theorem dX5_readText_75 : decode cX5_readText 75 = .ok (.ifCond .eq 14, 3) := by decide +kernel
theorem dX5_readText_78 : decode cX5_readText 78 = .ok (.aload_n 0, 1) := by decide +kernel
theorem dX5_readText_79 : decode cX5_readText 79 = .ok (.invokevirtual 63, 3) := by decide +kernel
theorem dX5_readText_82 : decode cX5_readText 82 = .ok (.ifCond .eq 7, 3) := by decide +kernel
theorem dX5_readText_85 : decode cX5_readText 85 = .ok (.iconst 1, 1) := by decide +kernel
theorem dX5_readText_86 : decode cX5_readText 86 = .ok (.goto 4, 3) := by decide +kernel
theorem dX5_readText_89 : decode cX5_readText 89 = .ok (.iconst 0, 1) := by decide +kernel
theorem dX5_readText_90 : decode cX5_readText 90 = .ok (.istore_n 1, 1) := by decide +kernel
theorem dX5_readText_91 : decode cX5_readText 91 = .ok (.iinc 2 1, 3) := by decide +kernel
theorem dX5_readText_94 : decode cX5_readText 94 = .ok (.goto (-44), 3) := by decide +kernel
theorem dX5_readText_97 : decode cX5_readText 97 = .ok (.iload_n 1, 1) := by decide +kernel
theorem dX5_readText_98 : decode cX5_readText 98 = .ok (.ireturn, 1) := by decide +kernel
theorem dX5_fail_0 : decode cX5_fail 0 = .ok (.aload_n 0, 1) := by decide +kernel
theorem dX5_fail_1 : decode cX5_fail 1 = .ok (.iload_n 1, 1) := by decide +kernel
theorem dX5_fail_2 : decode cX5_fail 2 = .ok (.putfield 32, 3) := by decide +kernel
theorem dX5_fail_5 : decode cX5_fail 5 = .ok (.aload_n 0, 1) := by decide +kernel
theorem dX5_fail_6 : decode cX5_fail 6 = .ok (.aload_n 0, 1) := by decide +kernel
theorem dX5_fail_7 : decode cX5_fail 7 = .ok (.getfield 12, 3) := by decide +kernel
theorem dX5_fail_10 : decode cX5_fail 10 = .ok (.getfield 66, 3) := by decide +kernel
theorem dX5_fail_13 : decode cX5_fail 13 = .ok (.putfield 36, 3) := by decide +kernel
theorem dX5_fail_16 : decode cX5_fail 16 = .ok (.iconst 0, 1) := by decide +kernel
theorem dX5_fail_17 : decode cX5_fail 17 = .ok (.ireturn, 1) := by decide +kernel
theorem dX5_readStatement_0 : decode cX5_readStatement 0 = .ok (.aload_n 0, 1) := by decide +kernel
theorem dX5_readStatement_1 : decode cX5_readStatement 1 = .ok (.getfield 12, 3) := by decide +kernel
theorem dX5_readStatement_4 : decode cX5_readStatement 4 = .ok (.getstatic 69, 3) := by decide +kernel
theorem dX5_readStatement_7 : decode cX5_readStatement 7 = .ok (.invokevirtual 75, 3) := by decide +kernel
theorem dX5_readStatement_10 : decode cX5_readStatement 10 = .ok (.ifCond .eq 8, 3) := by decide +kernel
theorem dX5_readStatement_13 : decode cX5_readStatement 13 = .ok (.aload_n 0, 1) := by decide +kernel
theorem dX5_readStatement_14 : decode cX5_readStatement 14 = .ok (.invokevirtual 79, 3) := by decide +kernel
theorem dX5_readStatement_17 : decode cX5_readStatement 17 = .ok (.ireturn, 1) := by decide +kernel
theorem dX5_readStatement_18 : decode cX5_readStatement 18 = .ok (.aload_n 0, 1) := by decide +kernel
theorem dX5_readStatement_19 : decode cX5_readStatement 19 = .ok (.getfield 12, 3) := by decide +kernel
theorem dX5_readStatement_22 : decode cX5_readStatement 22 = .ok (.getstatic 82, 3) := by decide +kernel
theorem dX5_readStatement_25 : decode cX5_readStatement 25 = .ok (.invokevirtual 75, 3) := by decide +kernel
theorem dX5_readStatement_28 : decode cX5_readStatement 28 = .ok (.ifCond .eq 8, 3) := by decide +kernel
theorem dX5_readStatement_31 : decode cX5_readStatement 31 = .ok (.aload_n 0, 1) := by decide +kernel
theorem dX5_readStatement_32 : decode cX5_readStatement 32 = .ok (.invokevirtual 85, 3) := by decide +kernel
theorem dX5_readStatement_35 : decode cX5_readStatement 35 = .ok (.ireturn, 1) := by decide +kernel
theorem dX5_readStatement_36 : decode cX5_readStatement 36 = .ok (.aload_n 0, 1) := by decide +kernel
theorem dX5_readStatement_37 : decode cX5_readStatement 37 = .ok (.getfield 12, 3) := by decide +kernel
theorem dX5_readStatement_40 : decode cX5_readStatement 40 = .ok (.getstatic 88, 3) := by decide +kernel
theorem dX5_readStatement_43 : decode cX5_readStatement 43 = .ok (.invokevirtual 75, 3) := by decide +kernel
theorem dX5_readStatement_46 : decode cX5_readStatement 46 = .ok (.ifCond .eq 8, 3) := by decide +kernel
theorem dX5_readStatement_49 : decode cX5_readStatement 49 = .ok (.aload_n 0, 1) := by decide +kernel
theorem dX5_readStatement_50 : decode cX5_readStatement 50 = .ok (.invokevirtual 91, 3) := by decide +kernel
theorem dX5_readStatement_53 : decode cX5_readStatement 53 = .ok (.ireturn, 1) := by decide +kernel
theorem dX5_readStatement_54 : decode cX5_readStatement 54 = .ok (.aload_n 0, 1) := by decide +kernel
theorem dX5_readStatement_55 : decode cX5_readStatement 55 = .ok (.getfield 12, 3) := by decide +kernel
theorem dX5_readStatement_58 : decode cX5_readStatement 58 = .ok (.getstatic 94, 3) := by decide +kernel
theorem dX5_readStatement_61 : decode cX5_readStatement 61 = .ok (.invokevirtual 75, 3) := by decide +kernel
theorem dX5_readStatement_64 : decode cX5_readStatement 64 = .ok (.ifCond .eq 8, 3) := by decide +kernel
theorem dX5_readStatement_67 : decode cX5_readStatement 67 = .ok (.aload_n 0, 1) := by decide +kernel
theorem dX5_readStatement_68 : decode cX5_readStatement 68 = .ok (.invokevirtual 97, 3) := by decide +kernel
theorem dX5_readStatement_71 : decode cX5_readStatement 71 = .ok (.ireturn, 1) := by decide +kernel
theorem dX5_readStatement_72 : decode cX5_readStatement 72 = .ok (.aload_n 0, 1) := by decide +kernel
theorem dX5_readStatement_73 : decode cX5_readStatement 73 = .ok (.getfield 12, 3) := by decide +kernel
theorem dX5_readStatement_76 : decode cX5_readStatement 76 = .ok (.getstatic 100, 3) := by decide +kernel
theorem dX5_readStatement_79 : decode cX5_readStatement 79 = .ok (.invokevirtual 75, 3) := by decide +kernel
theorem dX5_readStatement_82 : decode cX5_readStatement 82 = .ok (.ifCond .eq 8, 3) := by decide +kernel
theorem dX5_readStatement_85 : decode cX5_readStatement 85 = .ok (.aload_n 0, 1) := by decide +kernel
theorem dX5_readStatement_86 : decode cX5_readStatement 86 = .ok (.invokevirtual 103, 3) := by decide +kernel
theorem dX5_readStatement_89 : decode cX5_readStatement 89 = .ok (.ireturn, 1) := by decide +kernel
theorem dX5_readStatement_90 : decode cX5_readStatement 90 = .ok (.aload_n 0, 1) := by decide +kernel
theorem dX5_readStatement_91 : decode cX5_readStatement 91 = .ok (.iconst 1, 1) := by decide +kernel
theorem dX5_readStatement_92 : decode cX5_readStatement 92 = .ok (.invokevirtual 106, 3) := by decide +kernel
theorem dX5_readStatement_95 : decode cX5_readStatement 95 = .ok (.ireturn, 1) := by decide +kernel
theorem dX5_readSemicolon_0 : decode cX5_readSemicolon 0 = .ok (.aload_n 0, 1) := by decide +kernel
theorem dX5_readSemicolon_1 : decode cX5_readSemicolon 1 = .ok (.getfield 12, 3) := by decide +kernel
theorem dX5_readSemicolon_4 : decode cX5_readSemicolon 4 = .ok (.getfield 56, 3) := by decide +kernel
theorem dX5_readSemicolon_7 : decode cX5_readSemicolon 7 = .ok (.iconst 3, 1) := by decide +kernel
theorem dX5_readSemicolon_8 : decode cX5_readSemicolon 8 = .ok (.if_icmp .eq 9, 3) := by decide +kernel
theorem dX5_readSemicolon_11 : decode cX5_readSemicolon 11 = .ok (.aload_n 0, 1) := by decide +kernel
theorem dX5_readSemicolon_12 : decode cX5_readSemicolon 12 = .ok (.iconst 1, 1) := by decide +kernel
theorem dX5_readSemicolon_13 : decode cX5_readSemicolon 13 = .ok (.invokevirtual 106, 3) := by decide +kernel
theorem dX5_readSemicolon_16 : decode cX5_readSemicolon 16 = .ok (.ireturn, 1) := by decide +kernel
theorem dX5_readSemicolon_17 : decode cX5_readSemicolon 17 = .ok (.aload_n 0, 1) := by decide +kernel
theorem dX5_readSemicolon_18 : decode cX5_readSemicolon 18 = .ok (.getfield 12, 3) := by decide +kernel
theorem dX5_readSemicolon_21 : decode cX5_readSemicolon 21 = .ok (.invokevirtual 110, 3) := by decide +kernel
theorem dX5_readSemicolon_24 : decode cX5_readSemicolon 24 = .ok (.iconst 1, 1) := by decide +kernel
theorem dX5_readSemicolon_25 : decode cX5_readSemicolon 25 = .ok (.ireturn, 1) := by decide +kernel
theorem dX5_numberStands_0 : decode cX5_numberStands 0 = .ok (.aload_n 0, 1) := by decide +kernel
theorem dX5_numberStands_1 : decode cX5_numberStands 1 = .ok (.getfield 12, 3) := by decide +kernel
theorem dX5_numberStands_4 : decode cX5_numberStands 4 = .ok (.getfield 56, 3) := by decide +kernel
theorem dX5_numberStands_7 : decode cX5_numberStands 7 = .ok (.iconst 2, 1) := by decide +kernel
theorem dX5_numberStands_8 : decode cX5_numberStands 8 = .ok (.if_icmp .eq 9, 3) := by decide +kernel
theorem dX5_numberStands_11 : decode cX5_numberStands 11 = .ok (.aload_n 0, 1) := by decide +kernel
theorem dX5_numberStands_12 : decode cX5_numberStands 12 = .ok (.iconst 1, 1) := by decide +kernel
theorem dX5_numberStands_13 : decode cX5_numberStands 13 = .ok (.invokevirtual 106, 3) := by decide +kernel
theorem dX5_numberStands_16 : decode cX5_numberStands 16 = .ok (.ireturn, 1) := by decide +kernel
theorem dX5_numberStands_17 : decode cX5_numberStands 17 = .ok (.aload_n 0, 1) := by decide +kernel
theorem dX5_numberStands_18 : decode cX5_numberStands 18 = .ok (.getfield 12, 3) := by decide +kernel
theorem dX5_numberStands_21 : decode cX5_numberStands 21 = .ok (.getfield 113, 3) := by decide +kernel
theorem dX5_numberStands_24 : decode cX5_numberStands 24 = .ok (.iload_n 1, 1) := by decide +kernel
theorem dX5_numberStands_25 : decode cX5_numberStands 25 = .ok (.if_icmp .lt 14, 3) := by decide +kernel
theorem dX5_numberStands_28 : decode cX5_numberStands 28 = .ok (.aload_n 0, 1) := by decide +kernel
theorem dX5_numberStands_29 : decode cX5_numberStands 29 = .ok (.getfield 12, 3) := by decide +kernel
theorem dX5_numberStands_32 : decode cX5_numberStands 32 = .ok (.getfield 113, 3) := by decide +kernel
theorem dX5_numberStands_35 : decode cX5_numberStands 35 = .ok (.iload_n 2, 1) := by decide +kernel
theorem dX5_numberStands_36 : decode cX5_numberStands 36 = .ok (.if_icmp .le 11, 3) := by decide +kernel
theorem dX5_numberStands_39 : decode cX5_numberStands 39 = .ok (.aload_n 0, 1) := by decide +kernel
theorem dX5_numberStands_40 : decode cX5_numberStands 40 = .ok (.iconst 2, 1) := by decide +kernel
theorem dX5_numberStands_41 : decode cX5_numberStands 41 = .ok (.invokevirtual 106, 3) := by decide +kernel
theorem dX5_numberStands_44 : decode cX5_numberStands 44 = .ok (.ifCond .eq 7, 3) := by decide +kernel
theorem dX5_numberStands_47 : decode cX5_numberStands 47 = .ok (.iconst 1, 1) := by decide +kernel
theorem dX5_numberStands_48 : decode cX5_numberStands 48 = .ok (.goto 4, 3) := by decide +kernel
theorem dX5_numberStands_51 : decode cX5_numberStands 51 = .ok (.iconst 0, 1) := by decide +kernel
theorem dX5_numberStands_52 : decode cX5_numberStands 52 = .ok (.ireturn, 1) := by decide +kernel
theorem dX5_nameStands_0 : decode cX5_nameStands 0 = .ok (.aload_n 0, 1) := by decide +kernel
theorem dX5_nameStands_1 : decode cX5_nameStands 1 = .ok (.getfield 12, 3) := by decide +kernel
theorem dX5_nameStands_4 : decode cX5_nameStands 4 = .ok (.invokevirtual 116, 3) := by decide +kernel
theorem dX5_nameStands_7 : decode cX5_nameStands 7 = .ok (.ifCond .ne 11, 3) := by decide +kernel
theorem dX5_nameStands_10 : decode cX5_nameStands 10 = .ok (.aload_n 0, 1) := by decide +kernel
theorem dX5_nameStands_11 : decode cX5_nameStands 11 = .ok (.iconst 1, 1) := by decide +kernel
theorem dX5_nameStands_12 : decode cX5_nameStands 12 = .ok (.invokevirtual 106, 3) := by decide +kernel
theorem dX5_nameStands_15 : decode cX5_nameStands 15 = .ok (.ifCond .eq 7, 3) := by decide +kernel
theorem dX5_nameStands_18 : decode cX5_nameStands 18 = .ok (.iconst 1, 1) := by decide +kernel
theorem dX5_nameStands_19 : decode cX5_nameStands 19 = .ok (.goto 4, 3) := by decide +kernel
theorem dX5_nameStands_22 : decode cX5_nameStands 22 = .ok (.iconst 0, 1) := by decide +kernel
theorem dX5_nameStands_23 : decode cX5_nameStands 23 = .ok (.ireturn, 1) := by decide +kernel
theorem dX5_readStock_0 : decode cX5_readStock 0 = .ok (.aload_n 0, 1) := by decide +kernel
theorem dX5_readStock_1 : decode cX5_readStock 1 = .ok (.getfield 39, 3) := by decide +kernel
theorem dX5_readStock_4 : decode cX5_readStock 4 = .ok (.ifCond .eq 9, 3) := by decide +kernel
theorem dX5_readStock_7 : decode cX5_readStock 7 = .ok (.aload_n 0, 1) := by decide +kernel
theorem dX5_readStock_8 : decode cX5_readStock 8 = .ok (.iconst 4, 1) := by decide +kernel
theorem dX5_readStock_9 : decode cX5_readStock 9 = .ok (.invokevirtual 106, 3) := by decide +kernel
theorem dX5_readStock_12 : decode cX5_readStock 12 = .ok (.ireturn, 1) := by decide +kernel
theorem dX5_readStock_13 : decode cX5_readStock 13 = .ok (.aload_n 0, 1) := by decide +kernel
theorem dX5_readStock_14 : decode cX5_readStock 14 = .ok (.iconst 1, 1) := by decide +kernel
theorem dX5_readStock_15 : decode cX5_readStock 15 = .ok (.putfield 39, 3) := by decide +kernel
theorem dX5_readStock_18 : decode cX5_readStock 18 = .ok (.aload_n 0, 1) := by decide +kernel
theorem dX5_readStock_19 : decode cX5_readStock 19 = .ok (.getfield 12, 3) := by decide +kernel
theorem dX5_readStock_22 : decode cX5_readStock 22 = .ok (.invokevirtual 110, 3) := by decide +kernel
theorem dX5_readStock_25 : decode cX5_readStock 25 = .ok (.iconst 0, 1) := by decide +kernel
theorem dX5_readStock_26 : decode cX5_readStock 26 = .ok (.istore_n 1, 1) := by decide +kernel
theorem dX5_readStock_27 : decode cX5_readStock 27 = .ok (.iload_n 1, 1) := by decide +kernel
theorem dX5_readStock_28 : decode cX5_readStock 28 = .ok (.bipush 16, 2) := by decide +kernel
theorem dX5_readStock_30 : decode cX5_readStock 30 = .ok (.if_icmp .gt 81, 3) := by decide +kernel
theorem dX5_readStock_33 : decode cX5_readStock 33 = .ok (.iload_n 1, 1) := by decide +kernel
theorem dX5_readStock_34 : decode cX5_readStock 34 = .ok (.ifCond .eq 14, 3) := by decide +kernel
theorem dX5_readStock_37 : decode cX5_readStock 37 = .ok (.aload_n 0, 1) := by decide +kernel
theorem dX5_readStock_38 : decode cX5_readStock 38 = .ok (.getfield 12, 3) := by decide +kernel
theorem dX5_readStock_41 : decode cX5_readStock 41 = .ok (.getfield 56, 3) := by decide +kernel
theorem dX5_readStock_44 : decode cX5_readStock 44 = .ok (.iconst 2, 1) := by decide +kernel
theorem dX5_readStock_45 : decode cX5_readStock 45 = .ok (.if_icmp .ne 66, 3) := by decide +kernel
theorem dX5_readStock_48 : decode cX5_readStock 48 = .ok (.aload_n 0, 1) := by decide +kernel
theorem dX5_readStock_49 : decode cX5_readStock 49 = .ok (.bipush 8, 2) := by decide +kernel
theorem dX5_readStock_51 : decode cX5_readStock 51 = .ok (.bipush 100, 2) := by decide +kernel
theorem dX5_readStock_53 : decode cX5_readStock 53 = .ok (.invokevirtual 119, 3) := by decide +kernel
theorem dX5_readStock_56 : decode cX5_readStock 56 = .ok (.ifCond .ne 5, 3) := by decide +kernel
theorem dX5_readStock_59 : decode cX5_readStock 59 = .ok (.iconst 0, 1) := by decide +kernel
theorem dX5_readStock_60 : decode cX5_readStock 60 = .ok (.ireturn, 1) := by decide +kernel
theorem dX5_readStock_61 : decode cX5_readStock 61 = .ok (.aload_n 0, 1) := by decide +kernel
theorem dX5_readStock_62 : decode cX5_readStock 62 = .ok (.getfield 28, 3) := by decide +kernel
theorem dX5_readStock_65 : decode cX5_readStock 65 = .ok (.aload_n 0, 1) := by decide +kernel
theorem dX5_readStock_66 : decode cX5_readStock 66 = .ok (.getfield 12, 3) := by decide +kernel
theorem dX5_readStock_69 : decode cX5_readStock 69 = .ok (.getfield 113, 3) := by decide +kernel
theorem dX5_readStock_72 : decode cX5_readStock 72 = .ok (.invokevirtual 123, 3) := by decide +kernel
theorem dX5_readStock_75 : decode cX5_readStock 75 = .ok (.ifCond .ne 9, 3) := by decide +kernel
theorem dX5_readStock_78 : decode cX5_readStock 78 = .ok (.aload_n 0, 1) := by decide +kernel
theorem dX5_readStock_79 : decode cX5_readStock 79 = .ok (.iconst 4, 1) := by decide +kernel
theorem dX5_readStock_80 : decode cX5_readStock 80 = .ok (.invokevirtual 106, 3) := by decide +kernel
theorem dX5_readStock_83 : decode cX5_readStock 83 = .ok (.ireturn, 1) := by decide +kernel
theorem dX5_readStock_84 : decode cX5_readStock 84 = .ok (.aload_n 0, 1) := by decide +kernel
theorem dX5_readStock_85 : decode cX5_readStock 85 = .ok (.getfield 28, 3) := by decide +kernel
theorem dX5_readStock_88 : decode cX5_readStock 88 = .ok (.aload_n 0, 1) := by decide +kernel
theorem dX5_readStock_89 : decode cX5_readStock 89 = .ok (.getfield 12, 3) := by decide +kernel
theorem dX5_readStock_92 : decode cX5_readStock 92 = .ok (.getfield 113, 3) := by decide +kernel
theorem dX5_readStock_95 : decode cX5_readStock 95 = .ok (.invokevirtual 126, 3) := by decide +kernel
theorem dX5_readStock_98 : decode cX5_readStock 98 = .ok (.aload_n 0, 1) := by decide +kernel
theorem dX5_readStock_99 : decode cX5_readStock 99 = .ok (.getfield 12, 3) := by decide +kernel
theorem dX5_readStock_102 : decode cX5_readStock 102 = .ok (.invokevirtual 110, 3) := by decide +kernel
theorem dX5_readStock_105 : decode cX5_readStock 105 = .ok (.iinc 1 1, 3) := by decide +kernel
theorem dX5_readStock_108 : decode cX5_readStock 108 = .ok (.goto (-81), 3) := by decide +kernel
theorem dX5_readStock_111 : decode cX5_readStock 111 = .ok (.iconst 1, 1) := by decide +kernel
theorem dX5_readStock_112 : decode cX5_readStock 112 = .ok (.ireturn, 1) := by decide +kernel
theorem dX5_readStart_0 : decode cX5_readStart 0 = .ok (.aload_n 0, 1) := by decide +kernel
theorem dX5_readStart_1 : decode cX5_readStart 1 = .ok (.getfield 43, 3) := by decide +kernel
theorem dX5_readStart_4 : decode cX5_readStart 4 = .ok (.ifCond .eq 9, 3) := by decide +kernel
theorem dX5_readStart_7 : decode cX5_readStart 7 = .ok (.aload_n 0, 1) := by decide +kernel
theorem dX5_readStart_8 : decode cX5_readStart 8 = .ok (.iconst 4, 1) := by decide +kernel
theorem dX5_readStart_9 : decode cX5_readStart 9 = .ok (.invokevirtual 106, 3) := by decide +kernel
theorem dX5_readStart_12 : decode cX5_readStart 12 = .ok (.ireturn, 1) := by decide +kernel
theorem dX5_readStart_13 : decode cX5_readStart 13 = .ok (.aload_n 0, 1) := by decide +kernel
theorem dX5_readStart_14 : decode cX5_readStart 14 = .ok (.iconst 1, 1) := by decide +kernel
theorem dX5_readStart_15 : decode cX5_readStart 15 = .ok (.putfield 43, 3) := by decide +kernel
theorem dX5_readStart_18 : decode cX5_readStart 18 = .ok (.aload_n 0, 1) := by decide +kernel
theorem dX5_readStart_19 : decode cX5_readStart 19 = .ok (.getfield 12, 3) := by decide +kernel
theorem dX5_readStart_22 : decode cX5_readStart 22 = .ok (.invokevirtual 110, 3) := by decide +kernel
theorem dX5_readStart_25 : decode cX5_readStart 25 = .ok (.aload_n 0, 1) := by decide +kernel
theorem dX5_readStart_26 : decode cX5_readStart 26 = .ok (.sipush 1600, 3) := by decide +kernel
theorem dX5_readStart_29 : decode cX5_readStart 29 = .ok (.sipush 2400, 3) := by decide +kernel
theorem dX5_readStart_32 : decode cX5_readStart 32 = .ok (.invokevirtual 119, 3) := by decide +kernel
theorem dX5_readStart_35 : decode cX5_readStart 35 = .ok (.ifCond .ne 5, 3) := by decide +kernel
theorem dX5_readStart_38 : decode cX5_readStart 38 = .ok (.iconst 0, 1) := by decide +kernel
theorem dX5_readStart_39 : decode cX5_readStart 39 = .ok (.ireturn, 1) := by decide +kernel
theorem dX5_readStart_40 : decode cX5_readStart 40 = .ok (.aload_n 0, 1) := by decide +kernel
theorem dX5_readStart_41 : decode cX5_readStart 41 = .ok (.getfield 21, 3) := by decide +kernel
theorem dX5_readStart_44 : decode cX5_readStart 44 = .ok (.aload_n 0, 1) := by decide +kernel
theorem dX5_readStart_45 : decode cX5_readStart 45 = .ok (.getfield 12, 3) := by decide +kernel
theorem dX5_readStart_48 : decode cX5_readStart 48 = .ok (.getfield 113, 3) := by decide +kernel
theorem dX5_readStart_51 : decode cX5_readStart 51 = .ok (.putfield 130, 3) := by decide +kernel
theorem dX5_readStart_54 : decode cX5_readStart 54 = .ok (.aload_n 0, 1) := by decide +kernel
theorem dX5_readStart_55 : decode cX5_readStart 55 = .ok (.getfield 12, 3) := by decide +kernel
theorem dX5_readStart_58 : decode cX5_readStart 58 = .ok (.invokevirtual 110, 3) := by decide +kernel
theorem dX5_readStart_61 : decode cX5_readStart 61 = .ok (.iconst 1, 1) := by decide +kernel
theorem dX5_readStart_62 : decode cX5_readStart 62 = .ok (.ireturn, 1) := by decide +kernel
theorem dX5_readSlack_0 : decode cX5_readSlack 0 = .ok (.aload_n 0, 1) := by decide +kernel
theorem dX5_readSlack_1 : decode cX5_readSlack 1 = .ok (.getfield 46, 3) := by decide +kernel
theorem dX5_readSlack_4 : decode cX5_readSlack 4 = .ok (.ifCond .eq 9, 3) := by decide +kernel
theorem dX5_readSlack_7 : decode cX5_readSlack 7 = .ok (.aload_n 0, 1) := by decide +kernel
theorem dX5_readSlack_8 : decode cX5_readSlack 8 = .ok (.iconst 4, 1) := by decide +kernel
theorem dX5_readSlack_9 : decode cX5_readSlack 9 = .ok (.invokevirtual 106, 3) := by decide +kernel
theorem dX5_readSlack_12 : decode cX5_readSlack 12 = .ok (.ireturn, 1) := by decide +kernel
theorem dX5_readSlack_13 : decode cX5_readSlack 13 = .ok (.aload_n 0, 1) := by decide +kernel
theorem dX5_readSlack_14 : decode cX5_readSlack 14 = .ok (.iconst 1, 1) := by decide +kernel
theorem dX5_readSlack_15 : decode cX5_readSlack 15 = .ok (.putfield 46, 3) := by decide +kernel
theorem dX5_readSlack_18 : decode cX5_readSlack 18 = .ok (.aload_n 0, 1) := by decide +kernel
theorem dX5_readSlack_19 : decode cX5_readSlack 19 = .ok (.getfield 12, 3) := by decide +kernel
theorem dX5_readSlack_22 : decode cX5_readSlack 22 = .ok (.invokevirtual 110, 3) := by decide +kernel
theorem dX5_readSlack_25 : decode cX5_readSlack 25 = .ok (.aload_n 0, 1) := by decide +kernel
theorem dX5_readSlack_26 : decode cX5_readSlack 26 = .ok (.iconst 0, 1) := by decide +kernel
theorem dX5_readSlack_27 : decode cX5_readSlack 27 = .ok (.sipush 999, 3) := by decide +kernel
theorem dX5_readSlack_30 : decode cX5_readSlack 30 = .ok (.invokevirtual 119, 3) := by decide +kernel
theorem dX5_readSlack_33 : decode cX5_readSlack 33 = .ok (.ifCond .ne 5, 3) := by decide +kernel
theorem dX5_readSlack_36 : decode cX5_readSlack 36 = .ok (.iconst 0, 1) := by decide +kernel
theorem dX5_readSlack_37 : decode cX5_readSlack 37 = .ok (.ireturn, 1) := by decide +kernel
theorem dX5_readSlack_38 : decode cX5_readSlack 38 = .ok (.aload_n 0, 1) := by decide +kernel
theorem dX5_readSlack_39 : decode cX5_readSlack 39 = .ok (.getfield 28, 3) := by decide +kernel
theorem dX5_readSlack_42 : decode cX5_readSlack 42 = .ok (.aload_n 0, 1) := by decide +kernel
theorem dX5_readSlack_43 : decode cX5_readSlack 43 = .ok (.getfield 12, 3) := by decide +kernel
theorem dX5_readSlack_46 : decode cX5_readSlack 46 = .ok (.getfield 113, 3) := by decide +kernel
theorem dX5_readSlack_49 : decode cX5_readSlack 49 = .ok (.putfield 131, 3) := by decide +kernel
theorem dX5_readSlack_52 : decode cX5_readSlack 52 = .ok (.aload_n 0, 1) := by decide +kernel
theorem dX5_readSlack_53 : decode cX5_readSlack 53 = .ok (.getfield 12, 3) := by decide +kernel
theorem dX5_readSlack_56 : decode cX5_readSlack 56 = .ok (.invokevirtual 110, 3) := by decide +kernel
theorem dX5_readSlack_59 : decode cX5_readSlack 59 = .ok (.iconst 1, 1) := by decide +kernel
theorem dX5_readSlack_60 : decode cX5_readSlack 60 = .ok (.ireturn, 1) := by decide +kernel
theorem dX5_readBody_0 : decode cX5_readBody 0 = .ok (.aload_n 0, 1) := by decide +kernel
theorem dX5_readBody_1 : decode cX5_readBody 1 = .ok (.getfield 21, 3) := by decide +kernel
theorem dX5_readBody_4 : decode cX5_readBody 4 = .ok (.getfield 134, 3) := by decide +kernel
theorem dX5_readBody_7 : decode cX5_readBody 7 = .ok (.bipush 8, 2) := by decide +kernel
theorem dX5_readBody_9 : decode cX5_readBody 9 = .ok (.if_icmp .lt 9, 3) := by decide +kernel
theorem dX5_readBody_12 : decode cX5_readBody 12 = .ok (.aload_n 0, 1) := by decide +kernel
theorem dX5_readBody_13 : decode cX5_readBody 13 = .ok (.iconst 4, 1) := by decide +kernel
theorem dX5_readBody_14 : decode cX5_readBody 14 = .ok (.invokevirtual 106, 3) := by decide +kernel
theorem dX5_readBody_17 : decode cX5_readBody 17 = .ok (.ireturn, 1) := by decide +kernel
theorem dX5_readBody_18 : decode cX5_readBody 18 = .ok (.aload_n 0, 1) := by decide +kernel
theorem dX5_readBody_19 : decode cX5_readBody 19 = .ok (.getfield 12, 3) := by decide +kernel
theorem dX5_readBody_22 : decode cX5_readBody 22 = .ok (.invokevirtual 110, 3) := by decide +kernel
theorem dX5_readBody_25 : decode cX5_readBody 25 = .ok (.aload_n 0, 1) := by decide +kernel
theorem dX5_readBody_26 : decode cX5_readBody 26 = .ok (.invokevirtual 137, 3) := by decide +kernel
theorem dX5_readBody_29 : decode cX5_readBody 29 = .ok (.ifCond .ne 5, 3) := by decide +kernel
theorem dX5_readBody_32 : decode cX5_readBody 32 = .ok (.iconst 0, 1) := by decide +kernel
theorem dX5_readBody_33 : decode cX5_readBody 33 = .ok (.ireturn, 1) := by decide +kernel
theorem dX5_readBody_34 : decode cX5_readBody 34 = .ok (.aload_n 0, 1) := by decide +kernel
theorem dX5_readBody_35 : decode cX5_readBody 35 = .ok (.getfield 12, 3) := by decide +kernel
theorem dX5_readBody_38 : decode cX5_readBody 38 = .ok (.getfield 140, 3) := by decide +kernel
theorem dX5_readBody_41 : decode cX5_readBody 41 = .ok (.lstore_n 1, 1) := by decide +kernel
theorem dX5_readBody_42 : decode cX5_readBody 42 = .ok (.aload_n 0, 1) := by decide +kernel
theorem dX5_readBody_43 : decode cX5_readBody 43 = .ok (.getfield 21, 3) := by decide +kernel
theorem dX5_readBody_46 : decode cX5_readBody 46 = .ok (.lload_n 1, 1) := by decide +kernel
theorem dX5_readBody_47 : decode cX5_readBody 47 = .ok (.invokevirtual 144, 3) := by decide +kernel
theorem dX5_readBody_50 : decode cX5_readBody 50 = .ok (.ifCond .lt 9, 3) := by decide +kernel
theorem dX5_readBody_53 : decode cX5_readBody 53 = .ok (.aload_n 0, 1) := by decide +kernel
theorem dX5_readBody_54 : decode cX5_readBody 54 = .ok (.iconst 3, 1) := by decide +kernel
theorem dX5_readBody_55 : decode cX5_readBody 55 = .ok (.invokevirtual 106, 3) := by decide +kernel
theorem dX5_readBody_58 : decode cX5_readBody 58 = .ok (.ireturn, 1) := by decide +kernel
theorem dX5_readBody_59 : decode cX5_readBody 59 = .ok (.aload_n 0, 1) := by decide +kernel
theorem dX5_readBody_60 : decode cX5_readBody 60 = .ok (.getfield 12, 3) := by decide +kernel
theorem dX5_readBody_63 : decode cX5_readBody 63 = .ok (.invokevirtual 110, 3) := by decide +kernel
theorem dX5_readBody_66 : decode cX5_readBody 66 = .ok (.aload_n 0, 1) := by decide +kernel
theorem dX5_readBody_67 : decode cX5_readBody 67 = .ok (.getfield 12, 3) := by decide +kernel
theorem dX5_readBody_70 : decode cX5_readBody 70 = .ok (.getstatic 148, 3) := by decide +kernel
theorem dX5_readBody_73 : decode cX5_readBody 73 = .ok (.invokevirtual 75, 3) := by decide +kernel
theorem dX5_readBody_76 : decode cX5_readBody 76 = .ok (.ifCond .ne 9, 3) := by decide +kernel
theorem dX5_readBody_79 : decode cX5_readBody 79 = .ok (.aload_n 0, 1) := by decide +kernel
theorem dX5_readBody_80 : decode cX5_readBody 80 = .ok (.iconst 1, 1) := by decide +kernel
theorem dX5_readBody_81 : decode cX5_readBody 81 = .ok (.invokevirtual 106, 3) := by decide +kernel
theorem dX5_readBody_84 : decode cX5_readBody 84 = .ok (.ireturn, 1) := by decide +kernel
theorem dX5_readBody_85 : decode cX5_readBody 85 = .ok (.aload_n 0, 1) := by decide +kernel
theorem dX5_readBody_86 : decode cX5_readBody 86 = .ok (.getfield 12, 3) := by decide +kernel
theorem dX5_readBody_89 : decode cX5_readBody 89 = .ok (.invokevirtual 110, 3) := by decide +kernel
theorem dX5_readBody_92 : decode cX5_readBody 92 = .ok (.aload_n 0, 1) := by decide +kernel
theorem dX5_readBody_93 : decode cX5_readBody 93 = .ok (.bipush 100, 2) := by decide +kernel
theorem dX5_readBody_95 : decode cX5_readBody 95 = .ok (.ldc 151, 2) := by decide +kernel
theorem dX5_readBody_97 : decode cX5_readBody 97 = .ok (.invokevirtual 119, 3) := by decide +kernel
theorem dX5_readBody_100 : decode cX5_readBody 100 = .ok (.ifCond .ne 5, 3) := by decide +kernel
theorem dX5_readBody_103 : decode cX5_readBody 103 = .ok (.iconst 0, 1) := by decide +kernel
theorem dX5_readBody_104 : decode cX5_readBody 104 = .ok (.ireturn, 1) := by decide +kernel
theorem dX5_readBody_105 : decode cX5_readBody 105 = .ok (.aload_n 0, 1) := by decide +kernel
theorem dX5_readBody_106 : decode cX5_readBody 106 = .ok (.getfield 12, 3) := by decide +kernel
theorem dX5_readBody_109 : decode cX5_readBody 109 = .ok (.getfield 113, 3) := by decide +kernel
theorem dX5_readBody_112 : decode cX5_readBody 112 = .ok (.istore_n 3, 1) := by decide +kernel
theorem dX5_readBody_113 : decode cX5_readBody 113 = .ok (.aload_n 0, 1) := by decide +kernel
theorem dX5_readBody_114 : decode cX5_readBody 114 = .ok (.getfield 12, 3) := by decide +kernel
theorem dX5_readBody_117 : decode cX5_readBody 117 = .ok (.invokevirtual 110, 3) := by decide +kernel
theorem dX5_readBody_120 : decode cX5_readBody 120 = .ok (.aload_n 0, 1) := by decide +kernel
theorem dX5_readBody_121 : decode cX5_readBody 121 = .ok (.getfield 12, 3) := by decide +kernel
theorem dX5_readBody_124 : decode cX5_readBody 124 = .ok (.getstatic 152, 3) := by decide +kernel
theorem dX5_readBody_127 : decode cX5_readBody 127 = .ok (.invokevirtual 75, 3) := by decide +kernel
theorem dX5_readBody_130 : decode cX5_readBody 130 = .ok (.istore 4, 2) := by decide +kernel
theorem dX5_readBody_132 : decode cX5_readBody 132 = .ok (.iload 4, 2) := by decide +kernel
theorem dX5_readBody_134 : decode cX5_readBody 134 = .ok (.ifCond .eq 10, 3) := by decide +kernel
theorem dX5_readBody_137 : decode cX5_readBody 137 = .ok (.aload_n 0, 1) := by decide +kernel
theorem dX5_readBody_138 : decode cX5_readBody 138 = .ok (.getfield 12, 3) := by decide +kernel
theorem dX5_readBody_141 : decode cX5_readBody 141 = .ok (.invokevirtual 110, 3) := by decide +kernel
theorem dX5_readBody_144 : decode cX5_readBody 144 = .ok (.aload_n 0, 1) := by decide +kernel
theorem dX5_readBody_145 : decode cX5_readBody 145 = .ok (.getfield 12, 3) := by decide +kernel
theorem dX5_readBody_148 : decode cX5_readBody 148 = .ok (.getstatic 155, 3) := by decide +kernel
theorem dX5_readBody_151 : decode cX5_readBody 151 = .ok (.invokevirtual 75, 3) := by decide +kernel
theorem dX5_readBody_154 : decode cX5_readBody 154 = .ok (.ifCond .ne 17, 3) := by decide +kernel
theorem dX5_readBody_157 : decode cX5_readBody 157 = .ok (.aload_n 0, 1) := by decide +kernel
theorem dX5_readBody_158 : decode cX5_readBody 158 = .ok (.getfield 21, 3) := by decide +kernel
theorem dX5_readBody_161 : decode cX5_readBody 161 = .ok (.lload_n 1, 1) := by decide +kernel
theorem dX5_readBody_162 : decode cX5_readBody 162 = .ok (.iload_n 3, 1) := by decide +kernel
theorem dX5_readBody_163 : decode cX5_readBody 163 = .ok (.iload 4, 2) := by decide +kernel
theorem dX5_readBody_165 : decode cX5_readBody 165 = .ok (.iconst (-1), 1) := by decide +kernel
theorem dX5_readBody_166 : decode cX5_readBody 166 = .ok (.invokevirtual 158, 3) := by decide +kernel
theorem dX5_readBody_169 : decode cX5_readBody 169 = .ok (.iconst 1, 1) := by decide +kernel
theorem dX5_readBody_170 : decode cX5_readBody 170 = .ok (.ireturn, 1) := by decide +kernel
theorem dX5_readBody_171 : decode cX5_readBody 171 = .ok (.aload_n 0, 1) := by decide +kernel
theorem dX5_readBody_172 : decode cX5_readBody 172 = .ok (.getfield 12, 3) := by decide +kernel
theorem dX5_readBody_175 : decode cX5_readBody 175 = .ok (.invokevirtual 110, 3) := by decide +kernel
theorem dX5_readBody_178 : decode cX5_readBody 178 = .ok (.aload_n 0, 1) := by decide +kernel
theorem dX5_readBody_179 : decode cX5_readBody 179 = .ok (.invokevirtual 137, 3) := by decide +kernel
theorem dX5_readBody_182 : decode cX5_readBody 182 = .ok (.ifCond .ne 5, 3) := by decide +kernel
theorem dX5_readBody_185 : decode cX5_readBody 185 = .ok (.iconst 0, 1) := by decide +kernel
theorem dX5_readBody_186 : decode cX5_readBody 186 = .ok (.ireturn, 1) := by decide +kernel
theorem dX5_readBody_187 : decode cX5_readBody 187 = .ok (.aload_n 0, 1) := by decide +kernel
theorem dX5_readBody_188 : decode cX5_readBody 188 = .ok (.getfield 21, 3) := by decide +kernel
theorem dX5_readBody_191 : decode cX5_readBody 191 = .ok (.aload_n 0, 1) := by decide +kernel
theorem dX5_readBody_192 : decode cX5_readBody 192 = .ok (.getfield 12, 3) := by decide +kernel
theorem dX5_readBody_195 : decode cX5_readBody 195 = .ok (.getfield 140, 3) := by decide +kernel
theorem dX5_readBody_198 : decode cX5_readBody 198 = .ok (.invokevirtual 144, 3) := by decide +kernel
theorem dX5_readBody_201 : decode cX5_readBody 201 = .ok (.istore 5, 2) := by decide +kernel
theorem dX5_readBody_203 : decode cX5_readBody 203 = .ok (.iload 5, 2) := by decide +kernel
theorem dX5_readBody_205 : decode cX5_readBody 205 = .ok (.ifCond .lt 16, 3) := by decide +kernel
theorem dX5_readBody_208 : decode cX5_readBody 208 = .ok (.aload_n 0, 1) := by decide +kernel
theorem dX5_readBody_209 : decode cX5_readBody 209 = .ok (.getfield 21, 3) := by decide +kernel
theorem dX5_readBody_212 : decode cX5_readBody 212 = .ok (.getfield 162, 3) := by decide +kernel
theorem dX5_readBody_215 : decode cX5_readBody 215 = .ok (.iload 5, 2) := by decide +kernel
theorem dX5_readBody_217 : decode cX5_readBody 217 = .ok (.iaload, 1) := by decide +kernel
theorem dX5_readBody_218 : decode cX5_readBody 218 = .ok (.ifCond .lt 9, 3) := by decide +kernel
theorem dX5_readBody_221 : decode cX5_readBody 221 = .ok (.aload_n 0, 1) := by decide +kernel
theorem dX5_readBody_222 : decode cX5_readBody 222 = .ok (.iconst 3, 1) := by decide +kernel
theorem dX5_readBody_223 : decode cX5_readBody 223 = .ok (.invokevirtual 106, 3) := by decide +kernel
theorem dX5_readBody_226 : decode cX5_readBody 226 = .ok (.ireturn, 1) := by decide +kernel
theorem dX5_readBody_227 : decode cX5_readBody 227 = .ok (.aload_n 0, 1) := by decide +kernel
theorem dX5_readBody_228 : decode cX5_readBody 228 = .ok (.getfield 21, 3) := by decide +kernel
theorem dX5_readBody_231 : decode cX5_readBody 231 = .ok (.lload_n 1, 1) := by decide +kernel
theorem dX5_readBody_232 : decode cX5_readBody 232 = .ok (.iload_n 3, 1) := by decide +kernel
theorem dX5_readBody_233 : decode cX5_readBody 233 = .ok (.iload 4, 2) := by decide +kernel
theorem dX5_readBody_235 : decode cX5_readBody 235 = .ok (.iload 5, 2) := by decide +kernel
theorem dX5_readBody_237 : decode cX5_readBody 237 = .ok (.invokevirtual 158, 3) := by decide +kernel
theorem dX5_readBody_240 : decode cX5_readBody 240 = .ok (.aload_n 0, 1) := by decide +kernel
theorem dX5_readBody_241 : decode cX5_readBody 241 = .ok (.getfield 12, 3) := by decide +kernel
theorem dX5_readBody_244 : decode cX5_readBody 244 = .ok (.invokevirtual 110, 3) := by decide +kernel
theorem dX5_readBody_247 : decode cX5_readBody 247 = .ok (.iconst 1, 1) := by decide +kernel
theorem dX5_readBody_248 : decode cX5_readBody 248 = .ok (.ireturn, 1) := by decide +kernel
theorem dX5_readTrain_0 : decode cX5_readTrain 0 = .ok (.aload_n 0, 1) := by decide +kernel
theorem dX5_readTrain_1 : decode cX5_readTrain 1 = .ok (.getfield 12, 3) := by decide +kernel
theorem dX5_readTrain_4 : decode cX5_readTrain 4 = .ok (.invokevirtual 110, 3) := by decide +kernel
theorem dX5_readTrain_7 : decode cX5_readTrain 7 = .ok (.aload_n 0, 1) := by decide +kernel
theorem dX5_readTrain_8 : decode cX5_readTrain 8 = .ok (.invokevirtual 137, 3) := by decide +kernel
theorem dX5_readTrain_11 : decode cX5_readTrain 11 = .ok (.ifCond .ne 5, 3) := by decide +kernel
theorem dX5_readTrain_14 : decode cX5_readTrain 14 = .ok (.iconst 0, 1) := by decide +kernel
theorem dX5_readTrain_15 : decode cX5_readTrain 15 = .ok (.ireturn, 1) := by decide +kernel
theorem dX5_readTrain_16 : decode cX5_readTrain 16 = .ok (.aload_n 0, 1) := by decide +kernel
theorem dX5_readTrain_17 : decode cX5_readTrain 17 = .ok (.getfield 21, 3) := by decide +kernel
theorem dX5_readTrain_20 : decode cX5_readTrain 20 = .ok (.aload_n 0, 1) := by decide +kernel
theorem dX5_readTrain_21 : decode cX5_readTrain 21 = .ok (.getfield 12, 3) := by decide +kernel
theorem dX5_readTrain_24 : decode cX5_readTrain 24 = .ok (.getfield 140, 3) := by decide +kernel
theorem dX5_readTrain_27 : decode cX5_readTrain 27 = .ok (.invokevirtual 144, 3) := by decide +kernel
theorem dX5_readTrain_30 : decode cX5_readTrain 30 = .ok (.istore_n 1, 1) := by decide +kernel
theorem dX5_readTrain_31 : decode cX5_readTrain 31 = .ok (.iload_n 1, 1) := by decide +kernel
theorem dX5_readTrain_32 : decode cX5_readTrain 32 = .ok (.ifCond .ge 9, 3) := by decide +kernel
theorem dX5_readTrain_35 : decode cX5_readTrain 35 = .ok (.aload_n 0, 1) := by decide +kernel
theorem dX5_readTrain_36 : decode cX5_readTrain 36 = .ok (.iconst 3, 1) := by decide +kernel
theorem dX5_readTrain_37 : decode cX5_readTrain 37 = .ok (.invokevirtual 106, 3) := by decide +kernel
theorem dX5_readTrain_40 : decode cX5_readTrain 40 = .ok (.ireturn, 1) := by decide +kernel
theorem dX5_readTrain_41 : decode cX5_readTrain 41 = .ok (.aload_n 0, 1) := by decide +kernel
theorem dX5_readTrain_42 : decode cX5_readTrain 42 = .ok (.getfield 28, 3) := by decide +kernel
theorem dX5_readTrain_45 : decode cX5_readTrain 45 = .ok (.getfield 166, 3) := by decide +kernel
theorem dX5_readTrain_48 : decode cX5_readTrain 48 = .ok (.iload_n 1, 1) := by decide +kernel
theorem dX5_readTrain_49 : decode cX5_readTrain 49 = .ok (.aaload, 1) := by decide +kernel
theorem dX5_readTrain_50 : decode cX5_readTrain 50 = .ok (.astore_n 2, 1) := by decide +kernel
theorem dX5_readTrain_51 : decode cX5_readTrain 51 = .ok (.aload_n 2, 1) := by decide +kernel
theorem dX5_readTrain_52 : decode cX5_readTrain 52 = .ok (.getfield 170, 3) := by decide +kernel
theorem dX5_readTrain_55 : decode cX5_readTrain 55 = .ok (.ifCond .le 9, 3) := by decide +kernel
theorem dX5_readTrain_58 : decode cX5_readTrain 58 = .ok (.aload_n 0, 1) := by decide +kernel
theorem dX5_readTrain_59 : decode cX5_readTrain 59 = .ok (.iconst 4, 1) := by decide +kernel
theorem dX5_readTrain_60 : decode cX5_readTrain 60 = .ok (.invokevirtual 106, 3) := by decide +kernel
theorem dX5_readTrain_63 : decode cX5_readTrain 63 = .ok (.ireturn, 1) := by decide +kernel
theorem dX5_readTrain_64 : decode cX5_readTrain 64 = .ok (.aload_n 0, 1) := by decide +kernel
theorem dX5_readTrain_65 : decode cX5_readTrain 65 = .ok (.getfield 12, 3) := by decide +kernel
theorem dX5_readTrain_68 : decode cX5_readTrain 68 = .ok (.invokevirtual 110, 3) := by decide +kernel
theorem dX5_readTrain_71 : decode cX5_readTrain 71 = .ok (.iconst 0, 1) := by decide +kernel
theorem dX5_readTrain_72 : decode cX5_readTrain 72 = .ok (.istore_n 3, 1) := by decide +kernel
theorem dX5_readTrain_73 : decode cX5_readTrain 73 = .ok (.iload_n 3, 1) := by decide +kernel
theorem dX5_readTrain_74 : decode cX5_readTrain 74 = .ok (.iconst 4, 1) := by decide +kernel
theorem dX5_readTrain_75 : decode cX5_readTrain 75 = .ok (.if_icmp .gt 30, 3) := by decide +kernel
theorem dX5_readTrain_78 : decode cX5_readTrain 78 = .ok (.iload_n 3, 1) := by decide +kernel
theorem dX5_readTrain_79 : decode cX5_readTrain 79 = .ok (.ifCond .eq 10, 3) := by decide +kernel
theorem dX5_readTrain_82 : decode cX5_readTrain 82 = .ok (.aload_n 0, 1) := by decide +kernel
theorem dX5_readTrain_83 : decode cX5_readTrain 83 = .ok (.invokevirtual 175, 3) := by decide +kernel
theorem dX5_readTrain_86 : decode cX5_readTrain 86 = .ok (.ifCond .lt 19, 3) := by decide +kernel
theorem dX5_readTrain_89 : decode cX5_readTrain 89 = .ok (.aload_n 0, 1) := by decide +kernel
theorem dX5_readTrain_90 : decode cX5_readTrain 90 = .ok (.aload_n 2, 1) := by decide +kernel
theorem dX5_readTrain_91 : decode cX5_readTrain 91 = .ok (.invokevirtual 179, 3) := by decide +kernel
theorem dX5_readTrain_94 : decode cX5_readTrain 94 = .ok (.ifCond .ne 5, 3) := by decide +kernel
theorem dX5_readTrain_97 : decode cX5_readTrain 97 = .ok (.iconst 0, 1) := by decide +kernel
theorem dX5_readTrain_98 : decode cX5_readTrain 98 = .ok (.ireturn, 1) := by decide +kernel
theorem dX5_readTrain_99 : decode cX5_readTrain 99 = .ok (.iinc 3 1, 3) := by decide +kernel
theorem dX5_readTrain_102 : decode cX5_readTrain 102 = .ok (.goto (-29), 3) := by decide +kernel
theorem dX5_readTrain_105 : decode cX5_readTrain 105 = .ok (.iconst 1, 1) := by decide +kernel
theorem dX5_readTrain_106 : decode cX5_readTrain 106 = .ok (.ireturn, 1) := by decide +kernel
theorem dX5_kindOfPart_0 : decode cX5_kindOfPart 0 = .ok (.aload_n 0, 1) := by decide +kernel
theorem dX5_kindOfPart_1 : decode cX5_kindOfPart 1 = .ok (.getfield 12, 3) := by decide +kernel
theorem dX5_kindOfPart_4 : decode cX5_kindOfPart 4 = .ok (.getstatic 183, 3) := by decide +kernel
theorem dX5_kindOfPart_7 : decode cX5_kindOfPart 7 = .ok (.invokevirtual 75, 3) := by decide +kernel
theorem dX5_kindOfPart_10 : decode cX5_kindOfPart 10 = .ok (.ifCond .eq 5, 3) := by decide +kernel
theorem dX5_kindOfPart_13 : decode cX5_kindOfPart 13 = .ok (.iconst 0, 1) := by decide +kernel
theorem dX5_kindOfPart_14 : decode cX5_kindOfPart 14 = .ok (.ireturn, 1) := by decide +kernel
theorem dX5_kindOfPart_15 : decode cX5_kindOfPart 15 = .ok (.aload_n 0, 1) := by decide +kernel
theorem dX5_kindOfPart_16 : decode cX5_kindOfPart 16 = .ok (.getfield 12, 3) := by decide +kernel
theorem dX5_kindOfPart_19 : decode cX5_kindOfPart 19 = .ok (.getstatic 186, 3) := by decide +kernel
theorem dX5_kindOfPart_22 : decode cX5_kindOfPart 22 = .ok (.invokevirtual 75, 3) := by decide +kernel
theorem dX5_kindOfPart_25 : decode cX5_kindOfPart 25 = .ok (.ifCond .eq 5, 3) := by decide +kernel
theorem dX5_kindOfPart_28 : decode cX5_kindOfPart 28 = .ok (.iconst 1, 1) := by decide +kernel
theorem dX5_kindOfPart_29 : decode cX5_kindOfPart 29 = .ok (.ireturn, 1) := by decide +kernel
theorem dX5_kindOfPart_30 : decode cX5_kindOfPart 30 = .ok (.aload_n 0, 1) := by decide +kernel
theorem dX5_kindOfPart_31 : decode cX5_kindOfPart 31 = .ok (.getfield 12, 3) := by decide +kernel
theorem dX5_kindOfPart_34 : decode cX5_kindOfPart 34 = .ok (.getstatic 189, 3) := by decide +kernel
theorem dX5_kindOfPart_37 : decode cX5_kindOfPart 37 = .ok (.invokevirtual 75, 3) := by decide +kernel
theorem dX5_kindOfPart_40 : decode cX5_kindOfPart 40 = .ok (.ifCond .eq 7, 3) := by decide +kernel
theorem dX5_kindOfPart_43 : decode cX5_kindOfPart 43 = .ok (.iconst 2, 1) := by decide +kernel
theorem dX5_kindOfPart_44 : decode cX5_kindOfPart 44 = .ok (.goto 4, 3) := by decide +kernel
theorem dX5_kindOfPart_47 : decode cX5_kindOfPart 47 = .ok (.iconst (-1), 1) := by decide +kernel
theorem dX5_kindOfPart_48 : decode cX5_kindOfPart 48 = .ok (.ireturn, 1) := by decide +kernel
theorem dX5_readPart_0 : decode cX5_readPart 0 = .ok (.aload_n 0, 1) := by decide +kernel
theorem dX5_readPart_1 : decode cX5_readPart 1 = .ok (.invokevirtual 175, 3) := by decide +kernel
theorem dX5_readPart_4 : decode cX5_readPart 4 = .ok (.istore_n 2, 1) := by decide +kernel
theorem dX5_readPart_5 : decode cX5_readPart 5 = .ok (.iload_n 2, 1) := by decide +kernel
theorem dX5_readPart_6 : decode cX5_readPart 6 = .ok (.ifCond .ge 9, 3) := by decide +kernel
theorem dX5_readPart_9 : decode cX5_readPart 9 = .ok (.aload_n 0, 1) := by decide +kernel
theorem dX5_readPart_10 : decode cX5_readPart 10 = .ok (.iconst 1, 1) := by decide +kernel
theorem dX5_readPart_11 : decode cX5_readPart 11 = .ok (.invokevirtual 106, 3) := by decide +kernel
theorem dX5_readPart_14 : decode cX5_readPart 14 = .ok (.ireturn, 1) := by decide +kernel
theorem dX5_readPart_15 : decode cX5_readPart 15 = .ok (.aload_n 1, 1) := by decide +kernel
theorem dX5_readPart_16 : decode cX5_readPart 16 = .ok (.iload_n 2, 1) := by decide +kernel
theorem dX5_readPart_17 : decode cX5_readPart 17 = .ok (.invokevirtual 192, 3) := by decide +kernel
theorem dX5_readPart_20 : decode cX5_readPart 20 = .ok (.ifCond .ne 9, 3) := by decide +kernel
theorem dX5_readPart_23 : decode cX5_readPart 23 = .ok (.aload_n 0, 1) := by decide +kernel
theorem dX5_readPart_24 : decode cX5_readPart 24 = .ok (.iconst 4, 1) := by decide +kernel
theorem dX5_readPart_25 : decode cX5_readPart 25 = .ok (.invokevirtual 106, 3) := by decide +kernel
theorem dX5_readPart_28 : decode cX5_readPart 28 = .ok (.ireturn, 1) := by decide +kernel
theorem dX5_readPart_29 : decode cX5_readPart 29 = .ok (.aload_n 0, 1) := by decide +kernel
theorem dX5_readPart_30 : decode cX5_readPart 30 = .ok (.getfield 12, 3) := by decide +kernel
theorem dX5_readPart_33 : decode cX5_readPart 33 = .ok (.invokevirtual 110, 3) := by decide +kernel
theorem dX5_readPart_36 : decode cX5_readPart 36 = .ok (.aload_n 0, 1) := by decide +kernel
theorem dX5_readPart_37 : decode cX5_readPart 37 = .ok (.bipush 8, 2) := by decide +kernel
theorem dX5_readPart_39 : decode cX5_readPart 39 = .ok (.bipush 100, 2) := by decide +kernel
theorem dX5_readPart_41 : decode cX5_readPart 41 = .ok (.invokevirtual 119, 3) := by decide +kernel
theorem dX5_readPart_44 : decode cX5_readPart 44 = .ok (.ifCond .ne 5, 3) := by decide +kernel
theorem dX5_readPart_47 : decode cX5_readPart 47 = .ok (.iconst 0, 1) := by decide +kernel
theorem dX5_readPart_48 : decode cX5_readPart 48 = .ok (.ireturn, 1) := by decide +kernel
theorem dX5_readPart_49 : decode cX5_readPart 49 = .ok (.aload_n 0, 1) := by decide +kernel
theorem dX5_readPart_50 : decode cX5_readPart 50 = .ok (.getfield 12, 3) := by decide +kernel
theorem dX5_readPart_53 : decode cX5_readPart 53 = .ok (.getfield 113, 3) := by decide +kernel
theorem dX5_readPart_56 : decode cX5_readPart 56 = .ok (.istore_n 3, 1) := by decide +kernel
theorem dX5_readPart_57 : decode cX5_readPart 57 = .ok (.aload_n 0, 1) := by decide +kernel
theorem dX5_readPart_58 : decode cX5_readPart 58 = .ok (.getfield 12, 3) := by decide +kernel
theorem dX5_readPart_61 : decode cX5_readPart 61 = .ok (.invokevirtual 110, 3) := by decide +kernel
theorem dX5_readPart_64 : decode cX5_readPart 64 = .ok (.iload_n 2, 1) := by decide +kernel
theorem dX5_readPart_65 : decode cX5_readPart 65 = .ok (.iconst 2, 1) := by decide +kernel
theorem dX5_readPart_66 : decode cX5_readPart 66 = .ok (.if_icmp .ne 12, 3) := by decide +kernel
theorem dX5_readPart_69 : decode cX5_readPart 69 = .ok (.aload_n 1, 1) := by decide +kernel
theorem dX5_readPart_70 : decode cX5_readPart 70 = .ok (.iload_n 2, 1) := by decide +kernel
theorem dX5_readPart_71 : decode cX5_readPart 71 = .ok (.iload_n 3, 1) := by decide +kernel
theorem dX5_readPart_72 : decode cX5_readPart 72 = .ok (.iconst 0, 1) := by decide +kernel
theorem dX5_readPart_73 : decode cX5_readPart 73 = .ok (.invokevirtual 195, 3) := by decide +kernel
theorem dX5_readPart_76 : decode cX5_readPart 76 = .ok (.iconst 1, 1) := by decide +kernel
theorem dX5_readPart_77 : decode cX5_readPart 77 = .ok (.ireturn, 1) := by decide +kernel
theorem dX5_readPart_78 : decode cX5_readPart 78 = .ok (.aload_n 0, 1) := by decide +kernel
theorem dX5_readPart_79 : decode cX5_readPart 79 = .ok (.bipush 8, 2) := by decide +kernel
theorem dX5_readPart_81 : decode cX5_readPart 81 = .ok (.bipush 100, 2) := by decide +kernel
theorem dX5_readPart_83 : decode cX5_readPart 83 = .ok (.invokevirtual 119, 3) := by decide +kernel
theorem dX5_readPart_86 : decode cX5_readPart 86 = .ok (.ifCond .ne 5, 3) := by decide +kernel
theorem dX5_readPart_89 : decode cX5_readPart 89 = .ok (.iconst 0, 1) := by decide +kernel
theorem dX5_readPart_90 : decode cX5_readPart 90 = .ok (.ireturn, 1) := by decide +kernel
theorem dX5_readPart_91 : decode cX5_readPart 91 = .ok (.aload_n 1, 1) := by decide +kernel
theorem dX5_readPart_92 : decode cX5_readPart 92 = .ok (.iload_n 2, 1) := by decide +kernel
theorem dX5_readPart_93 : decode cX5_readPart 93 = .ok (.iload_n 3, 1) := by decide +kernel
theorem dX5_readPart_94 : decode cX5_readPart 94 = .ok (.aload_n 0, 1) := by decide +kernel
theorem dX5_readPart_95 : decode cX5_readPart 95 = .ok (.getfield 12, 3) := by decide +kernel
theorem dX5_readPart_98 : decode cX5_readPart 98 = .ok (.getfield 113, 3) := by decide +kernel
theorem dX5_readPart_101 : decode cX5_readPart 101 = .ok (.invokevirtual 195, 3) := by decide +kernel
theorem dX5_readPart_104 : decode cX5_readPart 104 = .ok (.aload_n 0, 1) := by decide +kernel
theorem dX5_readPart_105 : decode cX5_readPart 105 = .ok (.getfield 12, 3) := by decide +kernel
theorem dX5_readPart_108 : decode cX5_readPart 108 = .ok (.invokevirtual 110, 3) := by decide +kernel
theorem dX5_readPart_111 : decode cX5_readPart 111 = .ok (.iconst 1, 1) := by decide +kernel
theorem dX5_readPart_112 : decode cX5_readPart 112 = .ok (.ireturn, 1) := by decide +kernel
theorem dX6_init_0 : decode cX6_init 0 = .ok (.aload_n 0, 1) := by decide +kernel
theorem dX6_init_1 : decode cX6_init 1 = .ok (.invokespecial 3, 3) := by decide +kernel
theorem dX6_init_4 : decode cX6_init 4 = .ok (.aload_n 0, 1) := by decide +kernel
theorem dX6_init_5 : decode cX6_init 5 = .ok (.bipush 16, 2) := by decide +kernel
theorem dX6_init_7 : decode cX6_init 7 = .ok (.newarray .int, 2) := by decide +kernel
theorem dX6_init_9 : decode cX6_init 9 = .ok (.putfield 9, 3) := by decide +kernel
theorem dX6_init_12 : decode cX6_init 12 = .ok (.aload_n 0, 1) := by decide +kernel
theorem dX6_init_13 : decode cX6_init 13 = .ok (.iconst 0, 1) := by decide +kernel
theorem dX6_init_14 : decode cX6_init 14 = .ok (.putfield 15, 3) := by decide +kernel
theorem dX6_init_17 : decode cX6_init 17 = .ok (.aload_n 0, 1) := by decide +kernel
theorem dX6_init_18 : decode cX6_init 18 = .ok (.bipush 60, 2) := by decide +kernel
theorem dX6_init_20 : decode cX6_init 20 = .ok (.putfield 19, 3) := by decide +kernel
theorem dX6_init_23 : decode cX6_init 23 = .ok (.aload_n 0, 1) := by decide +kernel
theorem dX6_init_24 : decode cX6_init 24 = .ok (.iconst 0, 1) := by decide +kernel
theorem dX6_init_25 : decode cX6_init 25 = .ok (.putfield 22, 3) := by decide +kernel
theorem dX6_init_28 : decode cX6_init 28 = .ok (.aload_n 0, 1) := by decide +kernel
theorem dX6_init_29 : decode cX6_init 29 = .ok (.bipush 8, 2) := by decide +kernel
theorem dX6_init_31 : decode cX6_init 31 = .ok (.newarray .int, 2) := by decide +kernel
theorem dX6_init_33 : decode cX6_init 33 = .ok (.putfield 25, 3) := by decide +kernel
theorem dX6_init_36 : decode cX6_init 36 = .ok (.aload_n 0, 1) := by decide +kernel
theorem dX6_init_37 : decode cX6_init 37 = .ok (.bipush 8, 2) := by decide +kernel
theorem dX6_init_39 : decode cX6_init 39 = .ok (.anewarray 28, 3) := by decide +kernel
theorem dX6_init_42 : decode cX6_init 42 = .ok (.putfield 30, 3) := by decide +kernel
theorem dX6_init_45 : decode cX6_init 45 = .ok (.iconst 0, 1) := by decide +kernel
theorem dX6_init_46 : decode cX6_init 46 = .ok (.istore_n 1, 1) := by decide +kernel
theorem dX6_init_47 : decode cX6_init 47 = .ok (.iload_n 1, 1) := by decide +kernel
theorem dX6_init_48 : decode cX6_init 48 = .ok (.bipush 8, 2) := by decide +kernel
theorem dX6_init_50 : decode cX6_init 50 = .ok (.if_icmp .ge 22, 3) := by decide +kernel
theorem dX6_init_53 : decode cX6_init 53 = .ok (.aload_n 0, 1) := by decide +kernel
theorem dX6_init_54 : decode cX6_init 54 = .ok (.getfield 30, 3) := by decide +kernel
theorem dX6_init_57 : decode cX6_init 57 = .ok (.iload_n 1, 1) := by decide +kernel
theorem dX6_init_58 : decode cX6_init 58 = .ok (.new 28, 3) := by decide +kernel
theorem dX6_init_61 : decode cX6_init 61 = .ok (.dup, 1) := by decide +kernel
theorem dX6_init_62 : decode cX6_init 62 = .ok (.invokespecial 34, 3) := by decide +kernel
theorem dX6_init_65 : decode cX6_init 65 = .ok (.aastore, 1) := by decide +kernel
theorem dX6_init_66 : decode cX6_init 66 = .ok (.iinc 1 1, 3) := by decide +kernel
theorem dX6_init_69 : decode cX6_init 69 = .ok (.goto (-22), 3) := by decide +kernel
theorem dX6_init_72 : decode cX6_init 72 = .ok (.return_, 1) := by decide +kernel
theorem dX6_clearAll_0 : decode cX6_clearAll 0 = .ok (.aload_n 0, 1) := by decide +kernel
theorem dX6_clearAll_1 : decode cX6_clearAll 1 = .ok (.iconst 0, 1) := by decide +kernel
theorem dX6_clearAll_2 : decode cX6_clearAll 2 = .ok (.putfield 15, 3) := by decide +kernel
theorem dX6_clearAll_5 : decode cX6_clearAll 5 = .ok (.aload_n 0, 1) := by decide +kernel
theorem dX6_clearAll_6 : decode cX6_clearAll 6 = .ok (.bipush 60, 2) := by decide +kernel
theorem dX6_clearAll_8 : decode cX6_clearAll 8 = .ok (.putfield 19, 3) := by decide +kernel
theorem dX6_clearAll_11 : decode cX6_clearAll 11 = .ok (.aload_n 0, 1) := by decide +kernel
theorem dX6_clearAll_12 : decode cX6_clearAll 12 = .ok (.iconst 0, 1) := by decide +kernel
theorem dX6_clearAll_13 : decode cX6_clearAll 13 = .ok (.putfield 22, 3) := by decide +kernel
theorem dX6_clearAll_16 : decode cX6_clearAll 16 = .ok (.aload_n 0, 1) := by decide +kernel
theorem dX6_clearAll_17 : decode cX6_clearAll 17 = .ok (.invokevirtual 35, 3) := by decide +kernel
theorem dX6_clearAll_20 : decode cX6_clearAll 20 = .ok (.iconst 0, 1) := by decide +kernel
theorem dX6_clearAll_21 : decode cX6_clearAll 21 = .ok (.istore_n 1, 1) := by decide +kernel
theorem dX6_clearAll_22 : decode cX6_clearAll 22 = .ok (.iload_n 1, 1) := by decide +kernel
theorem dX6_clearAll_23 : decode cX6_clearAll 23 = .ok (.bipush 8, 2) := by decide +kernel
theorem dX6_clearAll_25 : decode cX6_clearAll 25 = .ok (.if_icmp .ge 19, 3) := by decide +kernel
theorem dX6_clearAll_28 : decode cX6_clearAll 28 = .ok (.aload_n 0, 1) := by decide +kernel
theorem dX6_clearAll_29 : decode cX6_clearAll 29 = .ok (.getfield 30, 3) := by decide +kernel
theorem dX6_clearAll_32 : decode cX6_clearAll 32 = .ok (.iload_n 1, 1) := by decide +kernel
theorem dX6_clearAll_33 : decode cX6_clearAll 33 = .ok (.aaload, 1) := by decide +kernel
theorem dX6_clearAll_34 : decode cX6_clearAll 34 = .ok (.iconst 0, 1) := by decide +kernel
theorem dX6_clearAll_35 : decode cX6_clearAll 35 = .ok (.putfield 38, 3) := by decide +kernel
theorem dX6_clearAll_38 : decode cX6_clearAll 38 = .ok (.iinc 1 1, 3) := by decide +kernel
theorem dX6_clearAll_41 : decode cX6_clearAll 41 = .ok (.goto (-19), 3) := by decide +kernel
theorem dX6_clearAll_44 : decode cX6_clearAll 44 = .ok (.return_, 1) := by decide +kernel
theorem dX6_copyFrom_0 : decode cX6_copyFrom 0 = .ok (.aload_n 1, 1) := by decide +kernel
theorem dX6_copyFrom_1 : decode cX6_copyFrom 1 = .ok (.getfield 9, 3) := by decide +kernel
theorem dX6_copyFrom_4 : decode cX6_copyFrom 4 = .ok (.iconst 0, 1) := by decide +kernel
theorem dX6_copyFrom_5 : decode cX6_copyFrom 5 = .ok (.aload_n 0, 1) := by decide +kernel
theorem dX6_copyFrom_6 : decode cX6_copyFrom 6 = .ok (.getfield 9, 3) := by decide +kernel
theorem dX6_copyFrom_9 : decode cX6_copyFrom 9 = .ok (.iconst 0, 1) := by decide +kernel
theorem dX6_copyFrom_10 : decode cX6_copyFrom 10 = .ok (.bipush 16, 2) := by decide +kernel
theorem dX6_copyFrom_12 : decode cX6_copyFrom 12 = .ok (.invokestatic 41, 3) := by decide +kernel
theorem dX6_copyFrom_15 : decode cX6_copyFrom 15 = .ok (.aload_n 0, 1) := by decide +kernel
theorem dX6_copyFrom_16 : decode cX6_copyFrom 16 = .ok (.aload_n 1, 1) := by decide +kernel
theorem dX6_copyFrom_17 : decode cX6_copyFrom 17 = .ok (.getfield 15, 3) := by decide +kernel
theorem dX6_copyFrom_20 : decode cX6_copyFrom 20 = .ok (.putfield 15, 3) := by decide +kernel
theorem dX6_copyFrom_23 : decode cX6_copyFrom 23 = .ok (.aload_n 0, 1) := by decide +kernel
theorem dX6_copyFrom_24 : decode cX6_copyFrom 24 = .ok (.aload_n 1, 1) := by decide +kernel
theorem dX6_copyFrom_25 : decode cX6_copyFrom 25 = .ok (.getfield 19, 3) := by decide +kernel
theorem dX6_copyFrom_28 : decode cX6_copyFrom 28 = .ok (.putfield 19, 3) := by decide +kernel
theorem dX6_copyFrom_31 : decode cX6_copyFrom 31 = .ok (.aload_n 0, 1) := by decide +kernel
theorem dX6_copyFrom_32 : decode cX6_copyFrom 32 = .ok (.aload_n 1, 1) := by decide +kernel
theorem dX6_copyFrom_33 : decode cX6_copyFrom 33 = .ok (.getfield 22, 3) := by decide +kernel
theorem dX6_copyFrom_36 : decode cX6_copyFrom 36 = .ok (.putfield 22, 3) := by decide +kernel
theorem dX6_copyFrom_39 : decode cX6_copyFrom 39 = .ok (.aload_n 1, 1) := by decide +kernel
theorem dX6_copyFrom_40 : decode cX6_copyFrom 40 = .ok (.getfield 25, 3) := by decide +kernel
theorem dX6_copyFrom_43 : decode cX6_copyFrom 43 = .ok (.iconst 0, 1) := by decide +kernel
theorem dX6_copyFrom_44 : decode cX6_copyFrom 44 = .ok (.aload_n 0, 1) := by decide +kernel
theorem dX6_copyFrom_45 : decode cX6_copyFrom 45 = .ok (.getfield 25, 3) := by decide +kernel
theorem dX6_copyFrom_48 : decode cX6_copyFrom 48 = .ok (.iconst 0, 1) := by decide +kernel
theorem dX6_copyFrom_49 : decode cX6_copyFrom 49 = .ok (.bipush 8, 2) := by decide +kernel
theorem dX6_copyFrom_51 : decode cX6_copyFrom 51 = .ok (.invokestatic 41, 3) := by decide +kernel
theorem dX6_copyFrom_54 : decode cX6_copyFrom 54 = .ok (.iconst 0, 1) := by decide +kernel
theorem dX6_copyFrom_55 : decode cX6_copyFrom 55 = .ok (.istore_n 2, 1) := by decide +kernel
theorem dX6_copyFrom_56 : decode cX6_copyFrom 56 = .ok (.iload_n 2, 1) := by decide +kernel
theorem dX6_copyFrom_57 : decode cX6_copyFrom 57 = .ok (.bipush 8, 2) := by decide +kernel
theorem dX6_copyFrom_59 : decode cX6_copyFrom 59 = .ok (.if_icmp .ge 24, 3) := by decide +kernel
theorem dX6_copyFrom_62 : decode cX6_copyFrom 62 = .ok (.aload_n 0, 1) := by decide +kernel
theorem dX6_copyFrom_63 : decode cX6_copyFrom 63 = .ok (.getfield 30, 3) := by decide +kernel
theorem dX6_copyFrom_66 : decode cX6_copyFrom 66 = .ok (.iload_n 2, 1) := by decide +kernel
theorem dX6_copyFrom_67 : decode cX6_copyFrom 67 = .ok (.aaload, 1) := by decide +kernel
theorem dX6_copyFrom_68 : decode cX6_copyFrom 68 = .ok (.aload_n 1, 1) := by decide +kernel
theorem dX6_copyFrom_69 : decode cX6_copyFrom 69 = .ok (.getfield 30, 3) := by decide +kernel
theorem dX6_copyFrom_72 : decode cX6_copyFrom 72 = .ok (.iload_n 2, 1) := by decide +kernel
theorem dX6_copyFrom_73 : decode cX6_copyFrom 73 = .ok (.aaload, 1) := by decide +kernel
theorem dX6_copyFrom_74 : decode cX6_copyFrom 74 = .ok (.invokevirtual 47, 3) := by decide +kernel
theorem dX6_copyFrom_77 : decode cX6_copyFrom 77 = .ok (.iinc 2 1, 3) := by decide +kernel
theorem dX6_copyFrom_80 : decode cX6_copyFrom 80 = .ok (.goto (-24), 3) := by decide +kernel
theorem dX6_copyFrom_83 : decode cX6_copyFrom 83 = .ok (.return_, 1) := by decide +kernel
theorem dX6_freeAllLags_0 : decode cX6_freeAllLags 0 = .ok (.iconst 0, 1) := by decide +kernel
theorem dX6_freeAllLags_1 : decode cX6_freeAllLags 1 = .ok (.istore_n 1, 1) := by decide +kernel
theorem dX6_freeAllLags_2 : decode cX6_freeAllLags 2 = .ok (.iload_n 1, 1) := by decide +kernel
theorem dX6_freeAllLags_3 : decode cX6_freeAllLags 3 = .ok (.bipush 8, 2) := by decide +kernel
theorem dX6_freeAllLags_5 : decode cX6_freeAllLags 5 = .ok (.if_icmp .ge 16, 3) := by decide +kernel
theorem dX6_freeAllLags_8 : decode cX6_freeAllLags 8 = .ok (.aload_n 0, 1) := by decide +kernel
theorem dX6_freeAllLags_9 : decode cX6_freeAllLags 9 = .ok (.getfield 25, 3) := by decide +kernel
theorem dX6_freeAllLags_12 : decode cX6_freeAllLags 12 = .ok (.iload_n 1, 1) := by decide +kernel
theorem dX6_freeAllLags_13 : decode cX6_freeAllLags 13 = .ok (.iconst 0, 1) := by decide +kernel
theorem dX6_freeAllLags_14 : decode cX6_freeAllLags 14 = .ok (.iastore, 1) := by decide +kernel
theorem dX6_freeAllLags_15 : decode cX6_freeAllLags 15 = .ok (.iinc 1 1, 3) := by decide +kernel
theorem dX6_freeAllLags_18 : decode cX6_freeAllLags 18 = .ok (.goto (-16), 3) := by decide +kernel
theorem dX6_freeAllLags_21 : decode cX6_freeAllLags 21 = .ok (.return_, 1) := by decide +kernel
theorem dX6_hasStock_0 : decode cX6_hasStock 0 = .ok (.iconst 0, 1) := by decide +kernel
theorem dX6_hasStock_1 : decode cX6_hasStock 1 = .ok (.istore_n 2, 1) := by decide +kernel
theorem dX6_hasStock_2 : decode cX6_hasStock 2 = .ok (.iload_n 2, 1) := by decide +kernel
theorem dX6_hasStock_3 : decode cX6_hasStock 3 = .ok (.aload_n 0, 1) := by decide +kernel
theorem dX6_hasStock_4 : decode cX6_hasStock 4 = .ok (.getfield 15, 3) := by decide +kernel
theorem dX6_hasStock_7 : decode cX6_hasStock 7 = .ok (.if_icmp .ge 21, 3) := by decide +kernel
theorem dX6_hasStock_10 : decode cX6_hasStock 10 = .ok (.aload_n 0, 1) := by decide +kernel
theorem dX6_hasStock_11 : decode cX6_hasStock 11 = .ok (.getfield 9, 3) := by decide +kernel
theorem dX6_hasStock_14 : decode cX6_hasStock 14 = .ok (.iload_n 2, 1) := by decide +kernel
theorem dX6_hasStock_15 : decode cX6_hasStock 15 = .ok (.iaload, 1) := by decide +kernel
theorem dX6_hasStock_16 : decode cX6_hasStock 16 = .ok (.iload_n 1, 1) := by decide +kernel
theorem dX6_hasStock_17 : decode cX6_hasStock 17 = .ok (.if_icmp .ne 5, 3) := by decide +kernel
theorem dX6_hasStock_20 : decode cX6_hasStock 20 = .ok (.iconst 1, 1) := by decide +kernel
theorem dX6_hasStock_21 : decode cX6_hasStock 21 = .ok (.ireturn, 1) := by decide +kernel
theorem dX6_hasStock_22 : decode cX6_hasStock 22 = .ok (.iinc 2 1, 3) := by decide +kernel
theorem dX6_hasStock_25 : decode cX6_hasStock 25 = .ok (.goto (-23), 3) := by decide +kernel
theorem dX6_hasStock_28 : decode cX6_hasStock 28 = .ok (.iconst 0, 1) := by decide +kernel
theorem dX6_hasStock_29 : decode cX6_hasStock 29 = .ok (.ireturn, 1) := by decide +kernel
theorem dX6_canTakeStock_0 : decode cX6_canTakeStock 0 = .ok (.aload_n 0, 1) := by decide +kernel
theorem dX6_canTakeStock_1 : decode cX6_canTakeStock 1 = .ok (.getfield 15, 3) := by decide +kernel
theorem dX6_canTakeStock_4 : decode cX6_canTakeStock 4 = .ok (.bipush 16, 2) := by decide +kernel
theorem dX6_canTakeStock_6 : decode cX6_canTakeStock 6 = .ok (.if_icmp .ge 15, 3) := by decide +kernel
theorem dX6_canTakeStock_9 : decode cX6_canTakeStock 9 = .ok (.aload_n 0, 1) := by decide +kernel
theorem dX6_canTakeStock_10 : decode cX6_canTakeStock 10 = .ok (.iload_n 1, 1) := by decide +kernel
theorem dX6_canTakeStock_11 : decode cX6_canTakeStock 11 = .ok (.invokevirtual 51, 3) := by decide +kernel
theorem dX6_canTakeStock_14 : decode cX6_canTakeStock 14 = .ok (.ifCond .ne 7, 3) := by decide +kernel
theorem dX6_canTakeStock_17 : decode cX6_canTakeStock 17 = .ok (.iconst 1, 1) := by decide +kernel
theorem dX6_canTakeStock_18 : decode cX6_canTakeStock 18 = .ok (.goto 4, 3) := by decide +kernel
theorem dX6_canTakeStock_21 : decode cX6_canTakeStock 21 = .ok (.iconst 0, 1) := by decide +kernel
theorem dX6_canTakeStock_22 : decode cX6_canTakeStock 22 = .ok (.ireturn, 1) := by decide +kernel
theorem dX6_insertStock_0 : decode cX6_insertStock 0 = .ok (.aload_n 0, 1) := by decide +kernel
theorem dX6_insertStock_1 : decode cX6_insertStock 1 = .ok (.getfield 15, 3) := by decide +kernel
theorem dX6_insertStock_4 : decode cX6_insertStock 4 = .ok (.bipush 16, 2) := by decide +kernel
theorem dX6_insertStock_6 : decode cX6_insertStock 6 = .ok (.if_icmp .lt 4, 3) := by decide +kernel
theorem dX6_insertStock_9 : decode cX6_insertStock 9 = .ok (.return_, 1) := by decide +kernel
theorem dX6_insertStock_10 : decode cX6_insertStock 10 = .ok (.aload_n 0, 1) := by decide +kernel
theorem dX6_insertStock_11 : decode cX6_insertStock 11 = .ok (.getfield 15, 3) := by decide +kernel
theorem dX6_insertStock_14 : decode cX6_insertStock 14 = .ok (.istore_n 2, 1) := by decide +kernel
theorem dX6_insertStock_15 : decode cX6_insertStock 15 = .ok (.iload_n 2, 1) := by decide +kernel
theorem dX6_insertStock_16 : decode cX6_insertStock 16 = .ok (.ifCond .le 35, 3) := by decide +kernel
theorem dX6_insertStock_19 : decode cX6_insertStock 19 = .ok (.aload_n 0, 1) := by decide +kernel
theorem dX6_insertStock_20 : decode cX6_insertStock 20 = .ok (.getfield 9, 3) := by decide +kernel
theorem dX6_insertStock_23 : decode cX6_insertStock 23 = .ok (.iload_n 2, 1) := by decide +kernel
theorem dX6_insertStock_24 : decode cX6_insertStock 24 = .ok (.iconst 1, 1) := by decide +kernel
theorem dX6_insertStock_25 : decode cX6_insertStock 25 = .ok (.isub, 1) := by decide +kernel
theorem dX6_insertStock_26 : decode cX6_insertStock 26 = .ok (.iaload, 1) := by decide +kernel
theorem dX6_insertStock_27 : decode cX6_insertStock 27 = .ok (.iload_n 1, 1) := by decide +kernel
theorem dX6_insertStock_28 : decode cX6_insertStock 28 = .ok (.if_icmp .le 23, 3) := by decide +kernel
theorem dX6_insertStock_31 : decode cX6_insertStock 31 = .ok (.aload_n 0, 1) := by decide +kernel
theorem dX6_insertStock_32 : decode cX6_insertStock 32 = .ok (.getfield 9, 3) := by decide +kernel
theorem dX6_insertStock_35 : decode cX6_insertStock 35 = .ok (.iload_n 2, 1) := by decide +kernel
theorem dX6_insertStock_36 : decode cX6_insertStock 36 = .ok (.aload_n 0, 1) := by decide +kernel
theorem dX6_insertStock_37 : decode cX6_insertStock 37 = .ok (.getfield 9, 3) := by decide +kernel
theorem dX6_insertStock_40 : decode cX6_insertStock 40 = .ok (.iload_n 2, 1) := by decide +kernel
theorem dX6_insertStock_41 : decode cX6_insertStock 41 = .ok (.iconst 1, 1) := by decide +kernel
theorem dX6_insertStock_42 : decode cX6_insertStock 42 = .ok (.isub, 1) := by decide +kernel
theorem dX6_insertStock_43 : decode cX6_insertStock 43 = .ok (.iaload, 1) := by decide +kernel
theorem dX6_insertStock_44 : decode cX6_insertStock 44 = .ok (.iastore, 1) := by decide +kernel
theorem dX6_insertStock_45 : decode cX6_insertStock 45 = .ok (.iinc 2 (-1), 3) := by decide +kernel
theorem dX6_insertStock_48 : decode cX6_insertStock 48 = .ok (.goto (-33), 3) := by decide +kernel
theorem dX6_insertStock_51 : decode cX6_insertStock 51 = .ok (.aload_n 0, 1) := by decide +kernel
theorem dX6_insertStock_52 : decode cX6_insertStock 52 = .ok (.getfield 9, 3) := by decide +kernel
theorem dX6_insertStock_55 : decode cX6_insertStock 55 = .ok (.iload_n 2, 1) := by decide +kernel
theorem dX6_insertStock_56 : decode cX6_insertStock 56 = .ok (.iload_n 1, 1) := by decide +kernel
theorem dX6_insertStock_57 : decode cX6_insertStock 57 = .ok (.iastore, 1) := by decide +kernel
theorem dX6_insertStock_58 : decode cX6_insertStock 58 = .ok (.aload_n 0, 1) := by decide +kernel
theorem dX6_insertStock_59 : decode cX6_insertStock 59 = .ok (.dup, 1) := by decide +kernel
theorem dX6_insertStock_60 : decode cX6_insertStock 60 = .ok (.getfield 15, 3) := by decide +kernel
theorem dX6_insertStock_63 : decode cX6_insertStock 63 = .ok (.iconst 1, 1) := by decide +kernel
theorem dX6_insertStock_64 : decode cX6_insertStock 64 = .ok (.iadd, 1) := by decide +kernel
theorem dX6_insertStock_65 : decode cX6_insertStock 65 = .ok (.putfield 15, 3) := by decide +kernel
theorem dX6_insertStock_68 : decode cX6_insertStock 68 = .ok (.return_, 1) := by decide +kernel
theorem dX7_init_0 : decode cX7_init 0 = .ok (.aload_n 0, 1) := by decide +kernel
theorem dX7_init_1 : decode cX7_init 1 = .ok (.invokespecial 3, 3) := by decide +kernel
theorem dX7_init_4 : decode cX7_init 4 = .ok (.aload_n 0, 1) := by decide +kernel
theorem dX7_init_5 : decode cX7_init 5 = .ok (.sipush 900, 3) := by decide +kernel
theorem dX7_init_8 : decode cX7_init 8 = .ok (.newarray .byte, 2) := by decide +kernel
theorem dX7_init_10 : decode cX7_init 10 = .ok (.putfield 9, 3) := by decide +kernel
theorem dX7_init_13 : decode cX7_init 13 = .ok (.aload_n 0, 1) := by decide +kernel
theorem dX7_init_14 : decode cX7_init 14 = .ok (.iconst 0, 1) := by decide +kernel
theorem dX7_init_15 : decode cX7_init 15 = .ok (.putfield 15, 3) := by decide +kernel
theorem dX7_init_18 : decode cX7_init 18 = .ok (.aload_n 0, 1) := by decide +kernel
theorem dX7_init_19 : decode cX7_init 19 = .ok (.iconst 0, 1) := by decide +kernel
theorem dX7_init_20 : decode cX7_init 20 = .ok (.putfield 19, 3) := by decide +kernel
theorem dX7_init_23 : decode cX7_init 23 = .ok (.aload_n 0, 1) := by decide +kernel
theorem dX7_init_24 : decode cX7_init 24 = .ok (.iconst 0, 1) := by decide +kernel
theorem dX7_init_25 : decode cX7_init 25 = .ok (.putfield 22, 3) := by decide +kernel
theorem dX7_init_28 : decode cX7_init 28 = .ok (.aload_n 0, 1) := by decide +kernel
theorem dX7_init_29 : decode cX7_init 29 = .ok (.iconst 0, 1) := by decide +kernel
theorem dX7_init_30 : decode cX7_init 30 = .ok (.putfield 25, 3) := by decide +kernel
theorem dX7_init_33 : decode cX7_init 33 = .ok (.aload_n 0, 1) := by decide +kernel
theorem dX7_init_34 : decode cX7_init 34 = .ok (.iconst 0, 1) := by decide +kernel
theorem dX7_init_35 : decode cX7_init 35 = .ok (.putfield 28, 3) := by decide +kernel
theorem dX7_init_38 : decode cX7_init 38 = .ok (.aload_n 0, 1) := by decide +kernel
theorem dX7_init_39 : decode cX7_init 39 = .ok (.lconst 0, 1) := by decide +kernel
theorem dX7_init_40 : decode cX7_init 40 = .ok (.putfield 31, 3) := by decide +kernel
theorem dX7_init_43 : decode cX7_init 43 = .ok (.return_, 1) := by decide +kernel
theorem dX7_appendBytes_0 : decode cX7_appendBytes 0 = .ok (.bipush 24, 2) := by decide +kernel
theorem dX7_appendBytes_2 : decode cX7_appendBytes 2 = .ok (.istore_n 2, 1) := by decide +kernel
theorem dX7_appendBytes_3 : decode cX7_appendBytes 3 = .ok (.iload_n 2, 1) := by decide +kernel
theorem dX7_appendBytes_4 : decode cX7_appendBytes 4 = .ok (.ifCond .lt 42, 3) := by decide +kernel
theorem dX7_appendBytes_7 : decode cX7_appendBytes 7 = .ok (.aload_n 0, 1) := by decide +kernel
theorem dX7_appendBytes_8 : decode cX7_appendBytes 8 = .ok (.getfield 15, 3) := by decide +kernel
theorem dX7_appendBytes_11 : decode cX7_appendBytes 11 = .ok (.sipush 900, 3) := by decide +kernel
theorem dX7_appendBytes_14 : decode cX7_appendBytes 14 = .ok (.if_icmp .ge 26, 3) := by decide +kernel
theorem dX7_appendBytes_17 : decode cX7_appendBytes 17 = .ok (.aload_n 0, 1) := by decide +kernel
theorem dX7_appendBytes_18 : decode cX7_appendBytes 18 = .ok (.getfield 9, 3) := by decide +kernel
theorem dX7_appendBytes_21 : decode cX7_appendBytes 21 = .ok (.aload_n 0, 1) := by decide +kernel
theorem dX7_appendBytes_22 : decode cX7_appendBytes 22 = .ok (.getfield 15, 3) := by decide +kernel
theorem dX7_appendBytes_25 : decode cX7_appendBytes 25 = .ok (.iload_n 1, 1) := by decide +kernel
theorem dX7_appendBytes_26 : decode cX7_appendBytes 26 = .ok (.iload_n 2, 1) := by decide +kernel
theorem dX7_appendBytes_27 : decode cX7_appendBytes 27 = .ok (.ishr, 1) := by decide +kernel
theorem dX7_appendBytes_28 : decode cX7_appendBytes 28 = .ok (.i2b, 1) := by decide +kernel
theorem dX7_appendBytes_29 : decode cX7_appendBytes 29 = .ok (.bastore, 1) := by decide +kernel
theorem dX7_appendBytes_30 : decode cX7_appendBytes 30 = .ok (.aload_n 0, 1) := by decide +kernel
theorem dX7_appendBytes_31 : decode cX7_appendBytes 31 = .ok (.dup, 1) := by decide +kernel
theorem dX7_appendBytes_32 : decode cX7_appendBytes 32 = .ok (.getfield 15, 3) := by decide +kernel
theorem dX7_appendBytes_35 : decode cX7_appendBytes 35 = .ok (.iconst 1, 1) := by decide +kernel
theorem dX7_appendBytes_36 : decode cX7_appendBytes 36 = .ok (.iadd, 1) := by decide +kernel
theorem dX7_appendBytes_37 : decode cX7_appendBytes 37 = .ok (.putfield 15, 3) := by decide +kernel
theorem dX7_appendBytes_40 : decode cX7_appendBytes 40 = .ok (.iinc 2 (-8), 3) := by decide +kernel
theorem dX7_appendBytes_43 : decode cX7_appendBytes 43 = .ok (.goto (-40), 3) := by decide +kernel
theorem dX7_appendBytes_46 : decode cX7_appendBytes 46 = .ok (.return_, 1) := by decide +kernel
theorem dX7_rewind_0 : decode cX7_rewind 0 = .ok (.aload_n 0, 1) := by decide +kernel
theorem dX7_rewind_1 : decode cX7_rewind 1 = .ok (.iconst 0, 1) := by decide +kernel
theorem dX7_rewind_2 : decode cX7_rewind 2 = .ok (.putfield 25, 3) := by decide +kernel
theorem dX7_rewind_5 : decode cX7_rewind 5 = .ok (.aload_n 0, 1) := by decide +kernel
theorem dX7_rewind_6 : decode cX7_rewind 6 = .ok (.invokevirtual 35, 3) := by decide +kernel
theorem dX7_rewind_9 : decode cX7_rewind 9 = .ok (.return_, 1) := by decide +kernel
theorem dX7_advance_0 : decode cX7_advance 0 = .ok (.aload_n 0, 1) := by decide +kernel
theorem dX7_advance_1 : decode cX7_advance 1 = .ok (.aload_n 0, 1) := by decide +kernel
theorem dX7_advance_2 : decode cX7_advance 2 = .ok (.getfield 25, 3) := by decide +kernel
theorem dX7_advance_5 : decode cX7_advance 5 = .ok (.putfield 22, 3) := by decide +kernel
theorem dX7_advance_8 : decode cX7_advance 8 = .ok (.aload_n 0, 1) := by decide +kernel
theorem dX7_advance_9 : decode cX7_advance 9 = .ok (.getfield 22, 3) := by decide +kernel
theorem dX7_advance_12 : decode cX7_advance 12 = .ok (.aload_n 0, 1) := by decide +kernel
theorem dX7_advance_13 : decode cX7_advance 13 = .ok (.getfield 15, 3) := by decide +kernel
theorem dX7_advance_16 : decode cX7_advance 16 = .ok (.if_icmp .ge 44, 3) := by decide +kernel
theorem dX7_advance_19 : decode cX7_advance 19 = .ok (.aload_n 0, 1) := by decide +kernel
theorem dX7_advance_20 : decode cX7_advance 20 = .ok (.getfield 9, 3) := by decide +kernel
theorem dX7_advance_23 : decode cX7_advance 23 = .ok (.aload_n 0, 1) := by decide +kernel
theorem dX7_advance_24 : decode cX7_advance 24 = .ok (.getfield 22, 3) := by decide +kernel
theorem dX7_advance_27 : decode cX7_advance 27 = .ok (.baload, 1) := by decide +kernel
theorem dX7_advance_28 : decode cX7_advance 28 = .ok (.bipush 32, 2) := by decide +kernel
theorem dX7_advance_30 : decode cX7_advance 30 = .ok (.if_icmp .eq 17, 3) := by decide +kernel
theorem dX7_advance_33 : decode cX7_advance 33 = .ok (.aload_n 0, 1) := by decide +kernel
theorem dX7_advance_34 : decode cX7_advance 34 = .ok (.getfield 9, 3) := by decide +kernel
theorem dX7_advance_37 : decode cX7_advance 37 = .ok (.aload_n 0, 1) := by decide +kernel
theorem dX7_advance_38 : decode cX7_advance 38 = .ok (.getfield 22, 3) := by decide +kernel
theorem dX7_advance_41 : decode cX7_advance 41 = .ok (.baload, 1) := by decide +kernel
theorem dX7_advance_42 : decode cX7_advance 42 = .ok (.bipush 10, 2) := by decide +kernel
theorem dX7_advance_44 : decode cX7_advance 44 = .ok (.if_icmp .ne 16, 3) := by decide +kernel
theorem dX7_advance_47 : decode cX7_advance 47 = .ok (.aload_n 0, 1) := by decide +kernel
theorem dX7_advance_48 : decode cX7_advance 48 = .ok (.dup, 1) := by decide +kernel
theorem dX7_advance_49 : decode cX7_advance 49 = .ok (.getfield 22, 3) := by decide +kernel
theorem dX7_advance_52 : decode cX7_advance 52 = .ok (.iconst 1, 1) := by decide +kernel
theorem dX7_advance_53 : decode cX7_advance 53 = .ok (.iadd, 1) := by decide +kernel
theorem dX7_advance_54 : decode cX7_advance 54 = .ok (.putfield 22, 3) := by decide +kernel
theorem dX7_advance_57 : decode cX7_advance 57 = .ok (.goto (-49), 3) := by decide +kernel
theorem dX7_advance_60 : decode cX7_advance 60 = .ok (.aload_n 0, 1) := by decide +kernel
theorem dX7_advance_61 : decode cX7_advance 61 = .ok (.aload_n 0, 1) := by decide +kernel
theorem dX7_advance_62 : decode cX7_advance 62 = .ok (.getfield 22, 3) := by decide +kernel
theorem dX7_advance_65 : decode cX7_advance 65 = .ok (.putfield 25, 3) := by decide +kernel
theorem dX7_advance_68 : decode cX7_advance 68 = .ok (.aload_n 0, 1) := by decide +kernel
theorem dX7_advance_69 : decode cX7_advance 69 = .ok (.getfield 22, 3) := by decide +kernel
theorem dX7_advance_72 : decode cX7_advance 72 = .ok (.aload_n 0, 1) := by decide +kernel
theorem dX7_advance_73 : decode cX7_advance 73 = .ok (.getfield 15, 3) := by decide +kernel
theorem dX7_advance_76 : decode cX7_advance 76 = .ok (.if_icmp .lt 9, 3) := by decide +kernel
theorem dX7_advance_79 : decode cX7_advance 79 = .ok (.aload_n 0, 1) := by decide +kernel
theorem dX7_advance_80 : decode cX7_advance 80 = .ok (.iconst 0, 1) := by decide +kernel
theorem dX7_advance_81 : decode cX7_advance 81 = .ok (.putfield 19, 3) := by decide +kernel
theorem dX7_advance_84 : decode cX7_advance 84 = .ok (.return_, 1) := by decide +kernel
theorem dX7_advance_85 : decode cX7_advance 85 = .ok (.aload_n 0, 1) := by decide +kernel
theorem dX7_advance_86 : decode cX7_advance 86 = .ok (.aload_n 0, 1) := by decide +kernel
theorem dX7_advance_87 : decode cX7_advance 87 = .ok (.getfield 9, 3) := by decide +kernel
theorem dX7_advance_90 : decode cX7_advance 90 = .ok (.aload_n 0, 1) := by decide +kernel
theorem dX7_advance_91 : decode cX7_advance 91 = .ok (.getfield 22, 3) := by decide +kernel
theorem dX7_advance_94 : decode cX7_advance 94 = .ok (.baload, 1) := by decide +kernel
theorem dX7_advance_95 : decode cX7_advance 95 = .ok (.invokestatic 38, 3) := by decide +kernel
theorem dX7_advance_98 : decode cX7_advance 98 = .ok (.putfield 19, 3) := by decide +kernel
theorem dX7_advance_101 : decode cX7_advance 101 = .ok (.aload_n 0, 1) := by decide +kernel
theorem dX7_advance_102 : decode cX7_advance 102 = .ok (.dup, 1) := by decide +kernel
theorem dX7_advance_103 : decode cX7_advance 103 = .ok (.getfield 25, 3) := by decide +kernel
theorem dX7_advance_106 : decode cX7_advance 106 = .ok (.iconst 1, 1) := by decide +kernel
theorem dX7_advance_107 : decode cX7_advance 107 = .ok (.iadd, 1) := by decide +kernel
theorem dX7_advance_108 : decode cX7_advance 108 = .ok (.putfield 25, 3) := by decide +kernel
theorem dX7_advance_111 : decode cX7_advance 111 = .ok (.aload_n 0, 1) := by decide +kernel
theorem dX7_advance_112 : decode cX7_advance 112 = .ok (.getfield 19, 3) := by decide +kernel
theorem dX7_advance_115 : decode cX7_advance 115 = .ok (.iconst 1, 1) := by decide +kernel
theorem dX7_advance_116 : decode cX7_advance 116 = .ok (.if_icmp .eq 11, 3) := by decide +kernel
theorem dX7_advance_119 : decode cX7_advance 119 = .ok (.aload_n 0, 1) := by decide +kernel
theorem dX7_advance_120 : decode cX7_advance 120 = .ok (.getfield 19, 3) := by decide +kernel
theorem dX7_advance_123 : decode cX7_advance 123 = .ok (.iconst 2, 1) := by decide +kernel
theorem dX7_advance_124 : decode cX7_advance 124 = .ok (.if_icmp .ne 50, 3) := by decide +kernel
theorem dX7_advance_127 : decode cX7_advance 127 = .ok (.aload_n 0, 1) := by decide +kernel
theorem dX7_advance_128 : decode cX7_advance 128 = .ok (.getfield 25, 3) := by decide +kernel
theorem dX7_advance_131 : decode cX7_advance 131 = .ok (.aload_n 0, 1) := by decide +kernel
theorem dX7_advance_132 : decode cX7_advance 132 = .ok (.getfield 15, 3) := by decide +kernel
theorem dX7_advance_135 : decode cX7_advance 135 = .ok (.if_icmp .ge 35, 3) := by decide +kernel
theorem dX7_advance_138 : decode cX7_advance 138 = .ok (.aload_n 0, 1) := by decide +kernel
theorem dX7_advance_139 : decode cX7_advance 139 = .ok (.getfield 9, 3) := by decide +kernel
theorem dX7_advance_142 : decode cX7_advance 142 = .ok (.aload_n 0, 1) := by decide +kernel
theorem dX7_advance_143 : decode cX7_advance 143 = .ok (.getfield 25, 3) := by decide +kernel
theorem dX7_advance_146 : decode cX7_advance 146 = .ok (.baload, 1) := by decide +kernel
theorem dX7_advance_147 : decode cX7_advance 147 = .ok (.invokestatic 38, 3) := by decide +kernel
theorem dX7_advance_150 : decode cX7_advance 150 = .ok (.aload_n 0, 1) := by decide +kernel
theorem dX7_advance_151 : decode cX7_advance 151 = .ok (.getfield 19, 3) := by decide +kernel
theorem dX7_advance_154 : decode cX7_advance 154 = .ok (.if_icmp .ne 16, 3) := by decide +kernel
theorem dX7_advance_157 : decode cX7_advance 157 = .ok (.aload_n 0, 1) := by decide +kernel
theorem dX7_advance_158 : decode cX7_advance 158 = .ok (.dup, 1) := by decide +kernel
theorem dX7_advance_159 : decode cX7_advance 159 = .ok (.getfield 25, 3) := by decide +kernel
theorem dX7_advance_162 : decode cX7_advance 162 = .ok (.iconst 1, 1) := by decide +kernel
theorem dX7_advance_163 : decode cX7_advance 163 = .ok (.iadd, 1) := by decide +kernel
theorem dX7_advance_164 : decode cX7_advance 164 = .ok (.putfield 25, 3) := by decide +kernel
theorem dX7_advance_167 : decode cX7_advance 167 = .ok (.goto (-40), 3) := by decide +kernel
theorem dX7_advance_170 : decode cX7_advance 170 = .ok (.aload_n 0, 1) := by decide +kernel
theorem dX7_advance_171 : decode cX7_advance 171 = .ok (.invokevirtual 42, 3) := by decide +kernel
theorem dX7_advance_174 : decode cX7_advance 174 = .ok (.return_, 1) := by decide +kernel
theorem dX7_kindOf_0 : decode cX7_kindOf 0 = .ok (.iload_n 0, 1) := by decide +kernel
theorem dX7_kindOf_1 : decode cX7_kindOf 1 = .ok (.bipush 97, 2) := by decide +kernel
theorem dX7_kindOf_3 : decode cX7_kindOf 3 = .ok (.if_icmp .lt 11, 3) := by decide +kernel
theorem dX7_kindOf_6 : decode cX7_kindOf 6 = .ok (.iload_n 0, 1) := by decide +kernel
theorem dX7_kindOf_7 : decode cX7_kindOf 7 = .ok (.bipush 122, 2) := by decide +kernel
theorem dX7_kindOf_9 : decode cX7_kindOf 9 = .ok (.if_icmp .gt 5, 3) := by decide +kernel
theorem dX7_kindOf_12 : decode cX7_kindOf 12 = .ok (.iconst 1, 1) := by decide +kernel
theorem dX7_kindOf_13 : decode cX7_kindOf 13 = .ok (.ireturn, 1) := by decide +kernel
theorem dX7_kindOf_14 : decode cX7_kindOf 14 = .ok (.iload_n 0, 1) := by decide +kernel
theorem dX7_kindOf_15 : decode cX7_kindOf 15 = .ok (.bipush 48, 2) := by decide +kernel
theorem dX7_kindOf_17 : decode cX7_kindOf 17 = .ok (.if_icmp .lt 11, 3) := by decide +kernel
theorem dX7_kindOf_20 : decode cX7_kindOf 20 = .ok (.iload_n 0, 1) := by decide +kernel
theorem dX7_kindOf_21 : decode cX7_kindOf 21 = .ok (.bipush 57, 2) := by decide +kernel
theorem dX7_kindOf_23 : decode cX7_kindOf 23 = .ok (.if_icmp .gt 5, 3) := by decide +kernel
theorem dX7_kindOf_26 : decode cX7_kindOf 26 = .ok (.iconst 2, 1) := by decide +kernel
theorem dX7_kindOf_27 : decode cX7_kindOf 27 = .ok (.ireturn, 1) := by decide +kernel
theorem dX7_kindOf_28 : decode cX7_kindOf 28 = .ok (.iload_n 0, 1) := by decide +kernel
theorem dX7_kindOf_29 : decode cX7_kindOf 29 = .ok (.bipush 59, 2) := by decide +kernel
theorem dX7_kindOf_31 : decode cX7_kindOf 31 = .ok (.if_icmp .ne 7, 3) := by decide +kernel
theorem dX7_kindOf_34 : decode cX7_kindOf 34 = .ok (.iconst 3, 1) := by decide +kernel
theorem dX7_kindOf_35 : decode cX7_kindOf 35 = .ok (.goto 4, 3) := by decide +kernel
theorem dX7_kindOf_38 : decode cX7_kindOf 38 = .ok (.iconst 4, 1) := by decide +kernel
theorem dX7_kindOf_39 : decode cX7_kindOf 39 = .ok (.ireturn, 1) := by decide +kernel
theorem dX7_takeRun_0 : decode cX7_takeRun 0 = .ok (.aload_n 0, 1) := by decide +kernel
theorem dX7_takeRun_1 : decode cX7_takeRun 1 = .ok (.lconst 0, 1) := by decide +kernel
theorem dX7_takeRun_2 : decode cX7_takeRun 2 = .ok (.putfield 31, 3) := by decide +kernel
theorem dX7_takeRun_5 : decode cX7_takeRun 5 = .ok (.aload_n 0, 1) := by decide +kernel
theorem dX7_takeRun_6 : decode cX7_takeRun 6 = .ok (.iconst 0, 1) := by decide +kernel
theorem dX7_takeRun_7 : decode cX7_takeRun 7 = .ok (.putfield 28, 3) := by decide +kernel
theorem dX7_takeRun_10 : decode cX7_takeRun 10 = .ok (.aload_n 0, 1) := by decide +kernel
theorem dX7_takeRun_11 : decode cX7_takeRun 11 = .ok (.getfield 19, 3) := by decide +kernel
theorem dX7_takeRun_14 : decode cX7_takeRun 14 = .ok (.iconst 1, 1) := by decide +kernel
theorem dX7_takeRun_15 : decode cX7_takeRun 15 = .ok (.if_icmp .ne 55, 3) := by decide +kernel
theorem dX7_takeRun_18 : decode cX7_takeRun 18 = .ok (.aload_n 0, 1) := by decide +kernel
theorem dX7_takeRun_19 : decode cX7_takeRun 19 = .ok (.getfield 25, 3) := by decide +kernel
theorem dX7_takeRun_22 : decode cX7_takeRun 22 = .ok (.aload_n 0, 1) := by decide +kernel
theorem dX7_takeRun_23 : decode cX7_takeRun 23 = .ok (.getfield 22, 3) := by decide +kernel
theorem dX7_takeRun_26 : decode cX7_takeRun 26 = .ok (.isub, 1) := by decide +kernel
theorem dX7_takeRun_27 : decode cX7_takeRun 27 = .ok (.bipush 8, 2) := by decide +kernel
theorem dX7_takeRun_29 : decode cX7_takeRun 29 = .ok (.if_icmp .gt 41, 3) := by decide +kernel
theorem dX7_takeRun_32 : decode cX7_takeRun 32 = .ok (.aload_n 0, 1) := by decide +kernel
theorem dX7_takeRun_33 : decode cX7_takeRun 33 = .ok (.getfield 22, 3) := by decide +kernel
theorem dX7_takeRun_36 : decode cX7_takeRun 36 = .ok (.istore_n 1, 1) := by decide +kernel
theorem dX7_takeRun_37 : decode cX7_takeRun 37 = .ok (.iload_n 1, 1) := by decide +kernel
theorem dX7_takeRun_38 : decode cX7_takeRun 38 = .ok (.aload_n 0, 1) := by decide +kernel
theorem dX7_takeRun_39 : decode cX7_takeRun 39 = .ok (.getfield 25, 3) := by decide +kernel
theorem dX7_takeRun_42 : decode cX7_takeRun 42 = .ok (.if_icmp .ge 28, 3) := by decide +kernel
theorem dX7_takeRun_45 : decode cX7_takeRun 45 = .ok (.aload_n 0, 1) := by decide +kernel
theorem dX7_takeRun_46 : decode cX7_takeRun 46 = .ok (.aload_n 0, 1) := by decide +kernel
theorem dX7_takeRun_47 : decode cX7_takeRun 47 = .ok (.getfield 31, 3) := by decide +kernel
theorem dX7_takeRun_50 : decode cX7_takeRun 50 = .ok (.bipush 8, 2) := by decide +kernel
theorem dX7_takeRun_52 : decode cX7_takeRun 52 = .ok (.lshl, 1) := by decide +kernel
theorem dX7_takeRun_53 : decode cX7_takeRun 53 = .ok (.aload_n 0, 1) := by decide +kernel
theorem dX7_takeRun_54 : decode cX7_takeRun 54 = .ok (.getfield 9, 3) := by decide +kernel
theorem dX7_takeRun_57 : decode cX7_takeRun 57 = .ok (.iload_n 1, 1) := by decide +kernel
theorem dX7_takeRun_58 : decode cX7_takeRun 58 = .ok (.baload, 1) := by decide +kernel
theorem dX7_takeRun_59 : decode cX7_takeRun 59 = .ok (.i2l, 1) := by decide +kernel
theorem dX7_takeRun_60 : decode cX7_takeRun 60 = .ok (.lor, 1) := by decide +kernel
theorem dX7_takeRun_61 : decode cX7_takeRun 61 = .ok (.putfield 31, 3) := by decide +kernel
theorem dX7_takeRun_64 : decode cX7_takeRun 64 = .ok (.iinc 1 1, 3) := by decide +kernel
theorem dX7_takeRun_67 : decode cX7_takeRun 67 = .ok (.goto (-30), 3) := by decide +kernel
theorem dX7_takeRun_70 : decode cX7_takeRun 70 = .ok (.aload_n 0, 1) := by decide +kernel
theorem dX7_takeRun_71 : decode cX7_takeRun 71 = .ok (.getfield 19, 3) := by decide +kernel
theorem dX7_takeRun_74 : decode cX7_takeRun 74 = .ok (.iconst 2, 1) := by decide +kernel
theorem dX7_takeRun_75 : decode cX7_takeRun 75 = .ok (.if_icmp .ne 22, 3) := by decide +kernel
theorem dX7_takeRun_78 : decode cX7_takeRun 78 = .ok (.aload_n 0, 1) := by decide +kernel
theorem dX7_takeRun_79 : decode cX7_takeRun 79 = .ok (.getfield 25, 3) := by decide +kernel
theorem dX7_takeRun_82 : decode cX7_takeRun 82 = .ok (.aload_n 0, 1) := by decide +kernel
theorem dX7_takeRun_83 : decode cX7_takeRun 83 = .ok (.getfield 22, 3) := by decide +kernel
theorem dX7_takeRun_86 : decode cX7_takeRun 86 = .ok (.isub, 1) := by decide +kernel
theorem dX7_takeRun_87 : decode cX7_takeRun 87 = .ok (.bipush 7, 2) := by decide +kernel
theorem dX7_takeRun_89 : decode cX7_takeRun 89 = .ok (.if_icmp .le 8, 3) := by decide +kernel
theorem dX7_takeRun_92 : decode cX7_takeRun 92 = .ok (.aload_n 0, 1) := by decide +kernel
theorem dX7_takeRun_93 : decode cX7_takeRun 93 = .ok (.iconst 4, 1) := by decide +kernel
theorem dX7_takeRun_94 : decode cX7_takeRun 94 = .ok (.putfield 19, 3) := by decide +kernel
theorem dX7_takeRun_97 : decode cX7_takeRun 97 = .ok (.aload_n 0, 1) := by decide +kernel
theorem dX7_takeRun_98 : decode cX7_takeRun 98 = .ok (.getfield 19, 3) := by decide +kernel
theorem dX7_takeRun_101 : decode cX7_takeRun 101 = .ok (.iconst 2, 1) := by decide +kernel
theorem dX7_takeRun_102 : decode cX7_takeRun 102 = .ok (.if_icmp .ne 43, 3) := by decide +kernel
theorem dX7_takeRun_105 : decode cX7_takeRun 105 = .ok (.aload_n 0, 1) := by decide +kernel
theorem dX7_takeRun_106 : decode cX7_takeRun 106 = .ok (.getfield 22, 3) := by decide +kernel
theorem dX7_takeRun_109 : decode cX7_takeRun 109 = .ok (.istore_n 1, 1) := by decide +kernel
theorem dX7_takeRun_110 : decode cX7_takeRun 110 = .ok (.iload_n 1, 1) := by decide +kernel
theorem dX7_takeRun_111 : decode cX7_takeRun 111 = .ok (.aload_n 0, 1) := by decide +kernel
theorem dX7_takeRun_112 : decode cX7_takeRun 112 = .ok (.getfield 25, 3) := by decide +kernel
theorem dX7_takeRun_115 : decode cX7_takeRun 115 = .ok (.if_icmp .ge 30, 3) := by decide +kernel
theorem dX7_takeRun_118 : decode cX7_takeRun 118 = .ok (.aload_n 0, 1) := by decide +kernel
theorem dX7_takeRun_119 : decode cX7_takeRun 119 = .ok (.aload_n 0, 1) := by decide +kernel
theorem dX7_takeRun_120 : decode cX7_takeRun 120 = .ok (.getfield 28, 3) := by decide +kernel
theorem dX7_takeRun_123 : decode cX7_takeRun 123 = .ok (.bipush 10, 2) := by decide +kernel
theorem dX7_takeRun_125 : decode cX7_takeRun 125 = .ok (.imul, 1) := by decide +kernel
theorem dX7_takeRun_126 : decode cX7_takeRun 126 = .ok (.aload_n 0, 1) := by decide +kernel
theorem dX7_takeRun_127 : decode cX7_takeRun 127 = .ok (.getfield 9, 3) := by decide +kernel
theorem dX7_takeRun_130 : decode cX7_takeRun 130 = .ok (.iload_n 1, 1) := by decide +kernel
theorem dX7_takeRun_131 : decode cX7_takeRun 131 = .ok (.baload, 1) := by decide +kernel
theorem dX7_takeRun_132 : decode cX7_takeRun 132 = .ok (.iadd, 1) := by decide +kernel
theorem dX7_takeRun_133 : decode cX7_takeRun 133 = .ok (.bipush 48, 2) := by decide +kernel
theorem dX7_takeRun_135 : decode cX7_takeRun 135 = .ok (.isub, 1) := by decide +kernel
theorem dX7_takeRun_136 : decode cX7_takeRun 136 = .ok (.putfield 28, 3) := by decide +kernel
theorem dX7_takeRun_139 : decode cX7_takeRun 139 = .ok (.iinc 1 1, 3) := by decide +kernel
theorem dX7_takeRun_142 : decode cX7_takeRun 142 = .ok (.goto (-32), 3) := by decide +kernel
theorem dX7_takeRun_145 : decode cX7_takeRun 145 = .ok (.return_, 1) := by decide +kernel
theorem dX7_isWord_0 : decode cX7_isWord 0 = .ok (.aload_n 0, 1) := by decide +kernel
theorem dX7_isWord_1 : decode cX7_isWord 1 = .ok (.getfield 19, 3) := by decide +kernel
theorem dX7_isWord_4 : decode cX7_isWord 4 = .ok (.iconst 1, 1) := by decide +kernel
theorem dX7_isWord_5 : decode cX7_isWord 5 = .ok (.if_icmp .ne 19, 3) := by decide +kernel
theorem dX7_isWord_8 : decode cX7_isWord 8 = .ok (.aload_n 0, 1) := by decide +kernel
theorem dX7_isWord_9 : decode cX7_isWord 9 = .ok (.getfield 31, 3) := by decide +kernel
theorem dX7_isWord_12 : decode cX7_isWord 12 = .ok (.aload_n 1, 1) := by decide +kernel
theorem dX7_isWord_13 : decode cX7_isWord 13 = .ok (.getfield 45, 3) := by decide +kernel
theorem dX7_isWord_16 : decode cX7_isWord 16 = .ok (.lcmp, 1) := by decide +kernel
theorem dX7_isWord_17 : decode cX7_isWord 17 = .ok (.ifCond .ne 7, 3) := by decide +kernel
theorem dX7_isWord_20 : decode cX7_isWord 20 = .ok (.iconst 1, 1) := by decide +kernel
theorem dX7_isWord_21 : decode cX7_isWord 21 = .ok (.goto 4, 3) := by decide +kernel
theorem dX7_isWord_24 : decode cX7_isWord 24 = .ok (.iconst 0, 1) := by decide +kernel
theorem dX7_isWord_25 : decode cX7_isWord 25 = .ok (.ireturn, 1) := by decide +kernel
theorem dX7_isName_0 : decode cX7_isName 0 = .ok (.aload_n 0, 1) := by decide +kernel
theorem dX7_isName_1 : decode cX7_isName 1 = .ok (.getfield 19, 3) := by decide +kernel
theorem dX7_isName_4 : decode cX7_isName 4 = .ok (.iconst 1, 1) := by decide +kernel
theorem dX7_isName_5 : decode cX7_isName 5 = .ok (.if_icmp .ne 26, 3) := by decide +kernel
theorem dX7_isName_8 : decode cX7_isName 8 = .ok (.aload_n 0, 1) := by decide +kernel
theorem dX7_isName_9 : decode cX7_isName 9 = .ok (.getfield 31, 3) := by decide +kernel
theorem dX7_isName_12 : decode cX7_isName 12 = .ok (.lconst 0, 1) := by decide +kernel
theorem dX7_isName_13 : decode cX7_isName 13 = .ok (.lcmp, 1) := by decide +kernel
theorem dX7_isName_14 : decode cX7_isName 14 = .ok (.ifCond .eq 17, 3) := by decide +kernel
theorem dX7_isName_17 : decode cX7_isName 17 = .ok (.aload_n 0, 1) := by decide +kernel
theorem dX7_isName_18 : decode cX7_isName 18 = .ok (.getfield 31, 3) := by decide +kernel
theorem dX7_isName_21 : decode cX7_isName 21 = .ok (.invokestatic 48, 3) := by decide +kernel
theorem dX7_isName_24 : decode cX7_isName 24 = .ok (.ifCond .ne 7, 3) := by decide +kernel
theorem dX7_isName_27 : decode cX7_isName 27 = .ok (.iconst 1, 1) := by decide +kernel
theorem dX7_isName_28 : decode cX7_isName 28 = .ok (.goto 4, 3) := by decide +kernel
theorem dX7_isName_31 : decode cX7_isName 31 = .ok (.iconst 0, 1) := by decide +kernel
theorem dX7_isName_32 : decode cX7_isName 32 = .ok (.ireturn, 1) := by decide +kernel
theorem dX8_init_0 : decode cX8_init 0 = .ok (.aload_n 0, 1) := by decide +kernel
theorem dX8_init_1 : decode cX8_init 1 = .ok (.invokespecial 3, 3) := by decide +kernel
theorem dX8_init_4 : decode cX8_init 4 = .ok (.aload_n 0, 1) := by decide +kernel
theorem dX8_init_5 : decode cX8_init 5 = .ok (.bipush 12, 2) := by decide +kernel
theorem dX8_init_7 : decode cX8_init 7 = .ok (.newarray .int, 2) := by decide +kernel
theorem dX8_init_9 : decode cX8_init 9 = .ok (.putfield 11, 3) := by decide +kernel
theorem dX8_init_12 : decode cX8_init 12 = .ok (.aload_n 0, 1) := by decide +kernel
theorem dX8_init_13 : decode cX8_init 13 = .ok (.iconst 0, 1) := by decide +kernel
theorem dX8_init_14 : decode cX8_init 14 = .ok (.putfield 15, 3) := by decide +kernel
theorem dX8_init_17 : decode cX8_init 17 = .ok (.return_, 1) := by decide +kernel
theorem dX8_copyFrom_0 : decode cX8_copyFrom 0 = .ok (.aload_n 0, 1) := by decide +kernel
theorem dX8_copyFrom_1 : decode cX8_copyFrom 1 = .ok (.aload_n 1, 1) := by decide +kernel
theorem dX8_copyFrom_2 : decode cX8_copyFrom 2 = .ok (.getfield 15, 3) := by decide +kernel
theorem dX8_copyFrom_5 : decode cX8_copyFrom 5 = .ok (.putfield 15, 3) := by decide +kernel
theorem dX8_copyFrom_8 : decode cX8_copyFrom 8 = .ok (.aload_n 1, 1) := by decide +kernel
theorem dX8_copyFrom_9 : decode cX8_copyFrom 9 = .ok (.getfield 11, 3) := by decide +kernel
theorem dX8_copyFrom_12 : decode cX8_copyFrom 12 = .ok (.iconst 0, 1) := by decide +kernel
theorem dX8_copyFrom_13 : decode cX8_copyFrom 13 = .ok (.aload_n 0, 1) := by decide +kernel
theorem dX8_copyFrom_14 : decode cX8_copyFrom 14 = .ok (.getfield 11, 3) := by decide +kernel
theorem dX8_copyFrom_17 : decode cX8_copyFrom 17 = .ok (.iconst 0, 1) := by decide +kernel
theorem dX8_copyFrom_18 : decode cX8_copyFrom 18 = .ok (.aload_n 0, 1) := by decide +kernel
theorem dX8_copyFrom_19 : decode cX8_copyFrom 19 = .ok (.getfield 11, 3) := by decide +kernel
theorem dX8_copyFrom_22 : decode cX8_copyFrom 22 = .ok (.arraylength, 1) := by decide +kernel
theorem dX8_copyFrom_23 : decode cX8_copyFrom 23 = .ok (.invokestatic 19, 3) := by decide +kernel
theorem dX8_copyFrom_26 : decode cX8_copyFrom 26 = .ok (.return_, 1) := by decide +kernel
theorem dX8_cell_0 : decode cX8_cell 0 = .ok (.iload_n 1, 1) := by decide +kernel
theorem dX8_cell_1 : decode cX8_cell 1 = .ok (.iconst 3, 1) := by decide +kernel
theorem dX8_cell_2 : decode cX8_cell 2 = .ok (.imul, 1) := by decide +kernel
theorem dX8_cell_3 : decode cX8_cell 3 = .ok (.iload_n 2, 1) := by decide +kernel
theorem dX8_cell_4 : decode cX8_cell 4 = .ok (.iadd, 1) := by decide +kernel
theorem dX8_cell_5 : decode cX8_cell 5 = .ok (.istore_n 3, 1) := by decide +kernel
theorem dX8_cell_6 : decode cX8_cell 6 = .ok (.iload_n 3, 1) := by decide +kernel
theorem dX8_cell_7 : decode cX8_cell 7 = .ok (.ifCond .lt 21, 3) := by decide +kernel
theorem dX8_cell_10 : decode cX8_cell 10 = .ok (.iload_n 3, 1) := by decide +kernel
theorem dX8_cell_11 : decode cX8_cell 11 = .ok (.aload_n 0, 1) := by decide +kernel
theorem dX8_cell_12 : decode cX8_cell 12 = .ok (.getfield 11, 3) := by decide +kernel
theorem dX8_cell_15 : decode cX8_cell 15 = .ok (.arraylength, 1) := by decide +kernel
theorem dX8_cell_16 : decode cX8_cell 16 = .ok (.if_icmp .ge 12, 3) := by decide +kernel
theorem dX8_cell_19 : decode cX8_cell 19 = .ok (.aload_n 0, 1) := by decide +kernel
theorem dX8_cell_20 : decode cX8_cell 20 = .ok (.getfield 11, 3) := by decide +kernel
theorem dX8_cell_23 : decode cX8_cell 23 = .ok (.iload_n 3, 1) := by decide +kernel
theorem dX8_cell_24 : decode cX8_cell 24 = .ok (.iaload, 1) := by decide +kernel
theorem dX8_cell_25 : decode cX8_cell 25 = .ok (.goto 4, 3) := by decide +kernel
theorem dX8_cell_28 : decode cX8_cell 28 = .ok (.iconst 0, 1) := by decide +kernel
theorem dX8_cell_29 : decode cX8_cell 29 = .ok (.ireturn, 1) := by decide +kernel
theorem dX8_putCell_0 : decode cX8_putCell 0 = .ok (.iload_n 1, 1) := by decide +kernel
theorem dX8_putCell_1 : decode cX8_putCell 1 = .ok (.iconst 3, 1) := by decide +kernel
theorem dX8_putCell_2 : decode cX8_putCell 2 = .ok (.imul, 1) := by decide +kernel
theorem dX8_putCell_3 : decode cX8_putCell 3 = .ok (.iload_n 2, 1) := by decide +kernel
theorem dX8_putCell_4 : decode cX8_putCell 4 = .ok (.iadd, 1) := by decide +kernel
theorem dX8_putCell_5 : decode cX8_putCell 5 = .ok (.istore 4, 2) := by decide +kernel
theorem dX8_putCell_7 : decode cX8_putCell 7 = .ok (.iload 4, 2) := by decide +kernel
theorem dX8_putCell_9 : decode cX8_putCell 9 = .ok (.ifCond .lt 21, 3) := by decide +kernel
theorem dX8_putCell_12 : decode cX8_putCell 12 = .ok (.iload 4, 2) := by decide +kernel
theorem dX8_putCell_14 : decode cX8_putCell 14 = .ok (.aload_n 0, 1) := by decide +kernel
theorem dX8_putCell_15 : decode cX8_putCell 15 = .ok (.getfield 11, 3) := by decide +kernel
theorem dX8_putCell_18 : decode cX8_putCell 18 = .ok (.arraylength, 1) := by decide +kernel
theorem dX8_putCell_19 : decode cX8_putCell 19 = .ok (.if_icmp .ge 11, 3) := by decide +kernel
theorem dX8_putCell_22 : decode cX8_putCell 22 = .ok (.aload_n 0, 1) := by decide +kernel
theorem dX8_putCell_23 : decode cX8_putCell 23 = .ok (.getfield 11, 3) := by decide +kernel
theorem dX8_putCell_26 : decode cX8_putCell 26 = .ok (.iload 4, 2) := by decide +kernel
theorem dX8_putCell_28 : decode cX8_putCell 28 = .ok (.iload_n 3, 1) := by decide +kernel
theorem dX8_putCell_29 : decode cX8_putCell 29 = .ok (.iastore, 1) := by decide +kernel
theorem dX8_putCell_30 : decode cX8_putCell 30 = .ok (.return_, 1) := by decide +kernel
theorem dX8_isGeared_0 : decode cX8_isGeared 0 = .ok (.aload_n 0, 1) := by decide +kernel
theorem dX8_isGeared_1 : decode cX8_isGeared 1 = .ok (.iload_n 1, 1) := by decide +kernel
theorem dX8_isGeared_2 : decode cX8_isGeared 2 = .ok (.iconst 0, 1) := by decide +kernel
theorem dX8_isGeared_3 : decode cX8_isGeared 3 = .ok (.invokevirtual 25, 3) := by decide +kernel
theorem dX8_isGeared_6 : decode cX8_isGeared 6 = .ok (.iconst 2, 1) := by decide +kernel
theorem dX8_isGeared_7 : decode cX8_isGeared 7 = .ok (.if_icmp .eq 7, 3) := by decide +kernel
theorem dX8_isGeared_10 : decode cX8_isGeared 10 = .ok (.iconst 1, 1) := by decide +kernel
theorem dX8_isGeared_11 : decode cX8_isGeared 11 = .ok (.goto 4, 3) := by decide +kernel
theorem dX8_isGeared_14 : decode cX8_isGeared 14 = .ok (.iconst 0, 1) := by decide +kernel
theorem dX8_isGeared_15 : decode cX8_isGeared 15 = .ok (.ireturn, 1) := by decide +kernel
theorem dX8_hasRoomFor_0 : decode cX8_hasRoomFor 0 = .ok (.aload_n 0, 1) := by decide +kernel
theorem dX8_hasRoomFor_1 : decode cX8_hasRoomFor 1 = .ok (.getfield 15, 3) := by decide +kernel
theorem dX8_hasRoomFor_4 : decode cX8_hasRoomFor 4 = .ok (.iconst 4, 1) := by decide +kernel
theorem dX8_hasRoomFor_5 : decode cX8_hasRoomFor 5 = .ok (.if_icmp .ge 20, 3) := by decide +kernel
theorem dX8_hasRoomFor_8 : decode cX8_hasRoomFor 8 = .ok (.iload_n 1, 1) := by decide +kernel
theorem dX8_hasRoomFor_9 : decode cX8_hasRoomFor 9 = .ok (.iconst 2, 1) := by decide +kernel
theorem dX8_hasRoomFor_10 : decode cX8_hasRoomFor 10 = .ok (.if_icmp .eq 11, 3) := by decide +kernel
theorem dX8_hasRoomFor_13 : decode cX8_hasRoomFor 13 = .ok (.aload_n 0, 1) := by decide +kernel
theorem dX8_hasRoomFor_14 : decode cX8_hasRoomFor 14 = .ok (.invokevirtual 29, 3) := by decide +kernel
theorem dX8_hasRoomFor_17 : decode cX8_hasRoomFor 17 = .ok (.iconst 2, 1) := by decide +kernel
theorem dX8_hasRoomFor_18 : decode cX8_hasRoomFor 18 = .ok (.if_icmp .ge 7, 3) := by decide +kernel
theorem dX8_hasRoomFor_21 : decode cX8_hasRoomFor 21 = .ok (.iconst 1, 1) := by decide +kernel
theorem dX8_hasRoomFor_22 : decode cX8_hasRoomFor 22 = .ok (.goto 4, 3) := by decide +kernel
theorem dX8_hasRoomFor_25 : decode cX8_hasRoomFor 25 = .ok (.iconst 0, 1) := by decide +kernel
theorem dX8_hasRoomFor_26 : decode cX8_hasRoomFor 26 = .ok (.ireturn, 1) := by decide +kernel
theorem dX8_append_0 : decode cX8_append 0 = .ok (.aload_n 0, 1) := by decide +kernel
theorem dX8_append_1 : decode cX8_append 1 = .ok (.getfield 15, 3) := by decide +kernel
theorem dX8_append_4 : decode cX8_append 4 = .ok (.iconst 4, 1) := by decide +kernel
theorem dX8_append_5 : decode cX8_append 5 = .ok (.if_icmp .ge 43, 3) := by decide +kernel
theorem dX8_append_8 : decode cX8_append 8 = .ok (.aload_n 0, 1) := by decide +kernel
theorem dX8_append_9 : decode cX8_append 9 = .ok (.aload_n 0, 1) := by decide +kernel
theorem dX8_append_10 : decode cX8_append 10 = .ok (.getfield 15, 3) := by decide +kernel
theorem dX8_append_13 : decode cX8_append 13 = .ok (.iconst 0, 1) := by decide +kernel
theorem dX8_append_14 : decode cX8_append 14 = .ok (.iload_n 1, 1) := by decide +kernel
theorem dX8_append_15 : decode cX8_append 15 = .ok (.invokevirtual 33, 3) := by decide +kernel
theorem dX8_append_18 : decode cX8_append 18 = .ok (.aload_n 0, 1) := by decide +kernel
theorem dX8_append_19 : decode cX8_append 19 = .ok (.aload_n 0, 1) := by decide +kernel
theorem dX8_append_20 : decode cX8_append 20 = .ok (.getfield 15, 3) := by decide +kernel
theorem dX8_append_23 : decode cX8_append 23 = .ok (.iconst 1, 1) := by decide +kernel
theorem dX8_append_24 : decode cX8_append 24 = .ok (.iload_n 2, 1) := by decide +kernel
theorem dX8_append_25 : decode cX8_append 25 = .ok (.invokevirtual 33, 3) := by decide +kernel
theorem dX8_append_28 : decode cX8_append 28 = .ok (.aload_n 0, 1) := by decide +kernel
theorem dX8_append_29 : decode cX8_append 29 = .ok (.aload_n 0, 1) := by decide +kernel
theorem dX8_append_30 : decode cX8_append 30 = .ok (.getfield 15, 3) := by decide +kernel
theorem dX8_append_33 : decode cX8_append 33 = .ok (.iconst 2, 1) := by decide +kernel
theorem dX8_append_34 : decode cX8_append 34 = .ok (.iload_n 3, 1) := by decide +kernel
theorem dX8_append_35 : decode cX8_append 35 = .ok (.invokevirtual 33, 3) := by decide +kernel
theorem dX8_append_38 : decode cX8_append 38 = .ok (.aload_n 0, 1) := by decide +kernel
theorem dX8_append_39 : decode cX8_append 39 = .ok (.dup, 1) := by decide +kernel
theorem dX8_append_40 : decode cX8_append 40 = .ok (.getfield 15, 3) := by decide +kernel
theorem dX8_append_43 : decode cX8_append 43 = .ok (.iconst 1, 1) := by decide +kernel
theorem dX8_append_44 : decode cX8_append 44 = .ok (.iadd, 1) := by decide +kernel
theorem dX8_append_45 : decode cX8_append 45 = .ok (.putfield 15, 3) := by decide +kernel
theorem dX8_append_48 : decode cX8_append 48 = .ok (.return_, 1) := by decide +kernel
theorem dX8_gearedParts_0 : decode cX8_gearedParts 0 = .ok (.iconst 0, 1) := by decide +kernel
theorem dX8_gearedParts_1 : decode cX8_gearedParts 1 = .ok (.istore_n 1, 1) := by decide +kernel
theorem dX8_gearedParts_2 : decode cX8_gearedParts 2 = .ok (.iconst 0, 1) := by decide +kernel
theorem dX8_gearedParts_3 : decode cX8_gearedParts 3 = .ok (.istore_n 2, 1) := by decide +kernel
theorem dX8_gearedParts_4 : decode cX8_gearedParts 4 = .ok (.iload_n 2, 1) := by decide +kernel
theorem dX8_gearedParts_5 : decode cX8_gearedParts 5 = .ok (.aload_n 0, 1) := by decide +kernel
theorem dX8_gearedParts_6 : decode cX8_gearedParts 6 = .ok (.getfield 15, 3) := by decide +kernel
theorem dX8_gearedParts_9 : decode cX8_gearedParts 9 = .ok (.if_icmp .ge 26, 3) := by decide +kernel
theorem dX8_gearedParts_12 : decode cX8_gearedParts 12 = .ok (.aload_n 0, 1) := by decide +kernel
theorem dX8_gearedParts_13 : decode cX8_gearedParts 13 = .ok (.getfield 11, 3) := by decide +kernel
theorem dX8_gearedParts_16 : decode cX8_gearedParts 16 = .ok (.iload_n 2, 1) := by decide +kernel
theorem dX8_gearedParts_17 : decode cX8_gearedParts 17 = .ok (.iconst 3, 1) := by decide +kernel
theorem dX8_gearedParts_18 : decode cX8_gearedParts 18 = .ok (.imul, 1) := by decide +kernel
theorem dX8_gearedParts_19 : decode cX8_gearedParts 19 = .ok (.iconst 0, 1) := by decide +kernel
theorem dX8_gearedParts_20 : decode cX8_gearedParts 20 = .ok (.iadd, 1) := by decide +kernel
theorem dX8_gearedParts_21 : decode cX8_gearedParts 21 = .ok (.iaload, 1) := by decide +kernel
theorem dX8_gearedParts_22 : decode cX8_gearedParts 22 = .ok (.iconst 2, 1) := by decide +kernel
theorem dX8_gearedParts_23 : decode cX8_gearedParts 23 = .ok (.if_icmp .eq 6, 3) := by decide +kernel
theorem dX8_gearedParts_26 : decode cX8_gearedParts 26 = .ok (.iinc 1 1, 3) := by decide +kernel
theorem dX8_gearedParts_29 : decode cX8_gearedParts 29 = .ok (.iinc 2 1, 3) := by decide +kernel
theorem dX8_gearedParts_32 : decode cX8_gearedParts 32 = .ok (.goto (-28), 3) := by decide +kernel
theorem dX8_gearedParts_35 : decode cX8_gearedParts 35 = .ok (.iload_n 1, 1) := by decide +kernel
theorem dX8_gearedParts_36 : decode cX8_gearedParts 36 = .ok (.ireturn, 1) := by decide +kernel
theorem dX8_meshes_0 : decode cX8_meshes 0 = .ok (.iconst 2, 1) := by decide +kernel
theorem dX8_meshes_1 : decode cX8_meshes 1 = .ok (.aload_n 0, 1) := by decide +kernel
theorem dX8_meshes_2 : decode cX8_meshes 2 = .ok (.getfield 15, 3) := by decide +kernel
theorem dX8_meshes_5 : decode cX8_meshes 5 = .ok (.imul, 1) := by decide +kernel
theorem dX8_meshes_6 : decode cX8_meshes 6 = .ok (.aload_n 0, 1) := by decide +kernel
theorem dX8_meshes_7 : decode cX8_meshes 7 = .ok (.invokevirtual 29, 3) := by decide +kernel
theorem dX8_meshes_10 : decode cX8_meshes 10 = .ok (.isub, 1) := by decide +kernel
theorem dX8_meshes_11 : decode cX8_meshes 11 = .ok (.ireturn, 1) := by decide +kernel
theorem dX8_teethTogether_0 : decode cX8_teethTogether 0 = .ok (.iconst 0, 1) := by decide +kernel
theorem dX8_teethTogether_1 : decode cX8_teethTogether 1 = .ok (.istore_n 1, 1) := by decide +kernel
theorem dX8_teethTogether_2 : decode cX8_teethTogether 2 = .ok (.iconst 0, 1) := by decide +kernel
theorem dX8_teethTogether_3 : decode cX8_teethTogether 3 = .ok (.istore_n 2, 1) := by decide +kernel
theorem dX8_teethTogether_4 : decode cX8_teethTogether 4 = .ok (.iload_n 2, 1) := by decide +kernel
theorem dX8_teethTogether_5 : decode cX8_teethTogether 5 = .ok (.aload_n 0, 1) := by decide +kernel
theorem dX8_teethTogether_6 : decode cX8_teethTogether 6 = .ok (.getfield 15, 3) := by decide +kernel
theorem dX8_teethTogether_9 : decode cX8_teethTogether 9 = .ok (.if_icmp .ge 25, 3) := by decide +kernel
theorem dX8_teethTogether_12 : decode cX8_teethTogether 12 = .ok (.iload_n 1, 1) := by decide +kernel
theorem dX8_teethTogether_13 : decode cX8_teethTogether 13 = .ok (.aload_n 0, 1) := by decide +kernel
theorem dX8_teethTogether_14 : decode cX8_teethTogether 14 = .ok (.iload_n 2, 1) := by decide +kernel
theorem dX8_teethTogether_15 : decode cX8_teethTogether 15 = .ok (.iconst 1, 1) := by decide +kernel
theorem dX8_teethTogether_16 : decode cX8_teethTogether 16 = .ok (.invokevirtual 25, 3) := by decide +kernel
theorem dX8_teethTogether_19 : decode cX8_teethTogether 19 = .ok (.aload_n 0, 1) := by decide +kernel
theorem dX8_teethTogether_20 : decode cX8_teethTogether 20 = .ok (.iload_n 2, 1) := by decide +kernel
theorem dX8_teethTogether_21 : decode cX8_teethTogether 21 = .ok (.iconst 2, 1) := by decide +kernel
theorem dX8_teethTogether_22 : decode cX8_teethTogether 22 = .ok (.invokevirtual 25, 3) := by decide +kernel
theorem dX8_teethTogether_25 : decode cX8_teethTogether 25 = .ok (.iadd, 1) := by decide +kernel
theorem dX8_teethTogether_26 : decode cX8_teethTogether 26 = .ok (.iadd, 1) := by decide +kernel
theorem dX8_teethTogether_27 : decode cX8_teethTogether 27 = .ok (.istore_n 1, 1) := by decide +kernel
theorem dX8_teethTogether_28 : decode cX8_teethTogether 28 = .ok (.iinc 2 1, 3) := by decide +kernel
theorem dX8_teethTogether_31 : decode cX8_teethTogether 31 = .ok (.goto (-27), 3) := by decide +kernel
theorem dX8_teethTogether_34 : decode cX8_teethTogether 34 = .ok (.iload_n 1, 1) := by decide +kernel
theorem dX8_teethTogether_35 : decode cX8_teethTogether 35 = .ok (.ireturn, 1) := by decide +kernel
theorem dX8_ratioTop_0 : decode cX8_ratioTop 0 = .ok (.aload_n 0, 1) := by decide +kernel
theorem dX8_ratioTop_1 : decode cX8_ratioTop 1 = .ok (.getfield 15, 3) := by decide +kernel
theorem dX8_ratioTop_4 : decode cX8_ratioTop 4 = .ok (.ifCond .ne 5, 3) := by decide +kernel
theorem dX8_ratioTop_7 : decode cX8_ratioTop 7 = .ok (.lconst 0, 1) := by decide +kernel
theorem dX8_ratioTop_8 : decode cX8_ratioTop 8 = .ok (.lreturn, 1) := by decide +kernel
theorem dX8_ratioTop_9 : decode cX8_ratioTop 9 = .ok (.lconst 1, 1) := by decide +kernel
theorem dX8_ratioTop_10 : decode cX8_ratioTop 10 = .ok (.lstore_n 1, 1) := by decide +kernel
theorem dX8_ratioTop_11 : decode cX8_ratioTop 11 = .ok (.iconst 0, 1) := by decide +kernel
theorem dX8_ratioTop_12 : decode cX8_ratioTop 12 = .ok (.istore_n 3, 1) := by decide +kernel
theorem dX8_ratioTop_13 : decode cX8_ratioTop 13 = .ok (.iload_n 3, 1) := by decide +kernel
theorem dX8_ratioTop_14 : decode cX8_ratioTop 14 = .ok (.aload_n 0, 1) := by decide +kernel
theorem dX8_ratioTop_15 : decode cX8_ratioTop 15 = .ok (.getfield 15, 3) := by decide +kernel
theorem dX8_ratioTop_18 : decode cX8_ratioTop 18 = .ok (.if_icmp .ge 53, 3) := by decide +kernel
theorem dX8_ratioTop_21 : decode cX8_ratioTop 21 = .ok (.aload_n 0, 1) := by decide +kernel
theorem dX8_ratioTop_22 : decode cX8_ratioTop 22 = .ok (.iload_n 3, 1) := by decide +kernel
theorem dX8_ratioTop_23 : decode cX8_ratioTop 23 = .ok (.iconst 0, 1) := by decide +kernel
theorem dX8_ratioTop_24 : decode cX8_ratioTop 24 = .ok (.invokevirtual 25, 3) := by decide +kernel
theorem dX8_ratioTop_27 : decode cX8_ratioTop 27 = .ok (.istore 4, 2) := by decide +kernel
theorem dX8_ratioTop_29 : decode cX8_ratioTop 29 = .ok (.lload_n 1, 1) := by decide +kernel
theorem dX8_ratioTop_30 : decode cX8_ratioTop 30 = .ok (.iload 4, 2) := by decide +kernel
theorem dX8_ratioTop_32 : decode cX8_ratioTop 32 = .ok (.iconst 1, 1) := by decide +kernel
theorem dX8_ratioTop_33 : decode cX8_ratioTop 33 = .ok (.if_icmp .ne 7, 3) := by decide +kernel
theorem dX8_ratioTop_36 : decode cX8_ratioTop 36 = .ok (.lconst 1, 1) := by decide +kernel
theorem dX8_ratioTop_37 : decode cX8_ratioTop 37 = .ok (.goto 6, 3) := by decide +kernel
theorem dX8_ratioTop_40 : decode cX8_ratioTop 40 = .ok (.ldc2_w 41, 3) := by decide +kernel
theorem dX8_ratioTop_43 : decode cX8_ratioTop 43 = .ok (.lmul, 1) := by decide +kernel
theorem dX8_ratioTop_44 : decode cX8_ratioTop 44 = .ok (.lstore_n 1, 1) := by decide +kernel
theorem dX8_ratioTop_45 : decode cX8_ratioTop 45 = .ok (.lload_n 1, 1) := by decide +kernel
theorem dX8_ratioTop_46 : decode cX8_ratioTop 46 = .ok (.iload 4, 2) := by decide +kernel
theorem dX8_ratioTop_48 : decode cX8_ratioTop 48 = .ok (.iconst 2, 1) := by decide +kernel
theorem dX8_ratioTop_49 : decode cX8_ratioTop 49 = .ok (.if_icmp .ne 7, 3) := by decide +kernel
theorem dX8_ratioTop_52 : decode cX8_ratioTop 52 = .ok (.lconst 1, 1) := by decide +kernel
theorem dX8_ratioTop_53 : decode cX8_ratioTop 53 = .ok (.goto 10, 3) := by decide +kernel
theorem dX8_ratioTop_56 : decode cX8_ratioTop 56 = .ok (.aload_n 0, 1) := by decide +kernel
theorem dX8_ratioTop_57 : decode cX8_ratioTop 57 = .ok (.iload_n 3, 1) := by decide +kernel
theorem dX8_ratioTop_58 : decode cX8_ratioTop 58 = .ok (.iconst 1, 1) := by decide +kernel
theorem dX8_ratioTop_59 : decode cX8_ratioTop 59 = .ok (.invokevirtual 25, 3) := by decide +kernel
theorem dX8_ratioTop_62 : decode cX8_ratioTop 62 = .ok (.i2l, 1) := by decide +kernel
theorem dX8_ratioTop_63 : decode cX8_ratioTop 63 = .ok (.lmul, 1) := by decide +kernel
theorem dX8_ratioTop_64 : decode cX8_ratioTop 64 = .ok (.lstore_n 1, 1) := by decide +kernel
theorem dX8_ratioTop_65 : decode cX8_ratioTop 65 = .ok (.iinc 3 1, 3) := by decide +kernel
theorem dX8_ratioTop_68 : decode cX8_ratioTop 68 = .ok (.goto (-55), 3) := by decide +kernel
theorem dX8_ratioTop_71 : decode cX8_ratioTop 71 = .ok (.lload_n 1, 1) := by decide +kernel
theorem dX8_ratioTop_72 : decode cX8_ratioTop 72 = .ok (.lreturn, 1) := by decide +kernel
theorem dX8_ratioBottom_0 : decode cX8_ratioBottom 0 = .ok (.lconst 1, 1) := by decide +kernel
theorem dX8_ratioBottom_1 : decode cX8_ratioBottom 1 = .ok (.lstore_n 1, 1) := by decide +kernel
theorem dX8_ratioBottom_2 : decode cX8_ratioBottom 2 = .ok (.iconst 0, 1) := by decide +kernel
theorem dX8_ratioBottom_3 : decode cX8_ratioBottom 3 = .ok (.istore_n 3, 1) := by decide +kernel
theorem dX8_ratioBottom_4 : decode cX8_ratioBottom 4 = .ok (.iload_n 3, 1) := by decide +kernel
theorem dX8_ratioBottom_5 : decode cX8_ratioBottom 5 = .ok (.aload_n 0, 1) := by decide +kernel
theorem dX8_ratioBottom_6 : decode cX8_ratioBottom 6 = .ok (.getfield 15, 3) := by decide +kernel
theorem dX8_ratioBottom_9 : decode cX8_ratioBottom 9 = .ok (.if_icmp .ge 31, 3) := by decide +kernel
theorem dX8_ratioBottom_12 : decode cX8_ratioBottom 12 = .ok (.lload_n 1, 1) := by decide +kernel
theorem dX8_ratioBottom_13 : decode cX8_ratioBottom 13 = .ok (.aload_n 0, 1) := by decide +kernel
theorem dX8_ratioBottom_14 : decode cX8_ratioBottom 14 = .ok (.iload_n 3, 1) := by decide +kernel
theorem dX8_ratioBottom_15 : decode cX8_ratioBottom 15 = .ok (.invokevirtual 37, 3) := by decide +kernel
theorem dX8_ratioBottom_18 : decode cX8_ratioBottom 18 = .ok (.ifCond .eq 13, 3) := by decide +kernel
theorem dX8_ratioBottom_21 : decode cX8_ratioBottom 21 = .ok (.aload_n 0, 1) := by decide +kernel
theorem dX8_ratioBottom_22 : decode cX8_ratioBottom 22 = .ok (.iload_n 3, 1) := by decide +kernel
theorem dX8_ratioBottom_23 : decode cX8_ratioBottom 23 = .ok (.iconst 2, 1) := by decide +kernel
theorem dX8_ratioBottom_24 : decode cX8_ratioBottom 24 = .ok (.invokevirtual 25, 3) := by decide +kernel
theorem dX8_ratioBottom_27 : decode cX8_ratioBottom 27 = .ok (.i2l, 1) := by decide +kernel
theorem dX8_ratioBottom_28 : decode cX8_ratioBottom 28 = .ok (.goto 4, 3) := by decide +kernel
theorem dX8_ratioBottom_31 : decode cX8_ratioBottom 31 = .ok (.lconst 1, 1) := by decide +kernel
theorem dX8_ratioBottom_32 : decode cX8_ratioBottom 32 = .ok (.lmul, 1) := by decide +kernel
theorem dX8_ratioBottom_33 : decode cX8_ratioBottom 33 = .ok (.lstore_n 1, 1) := by decide +kernel
theorem dX8_ratioBottom_34 : decode cX8_ratioBottom 34 = .ok (.iinc 3 1, 3) := by decide +kernel
theorem dX8_ratioBottom_37 : decode cX8_ratioBottom 37 = .ok (.goto (-33), 3) := by decide +kernel
theorem dX8_ratioBottom_40 : decode cX8_ratioBottom 40 = .ok (.lload_n 1, 1) := by decide +kernel
theorem dX8_ratioBottom_41 : decode cX8_ratioBottom 41 = .ok (.lreturn, 1) := by decide +kernel
theorem dX8_playWith_0 : decode cX8_playWith 0 = .ok (.lconst 0, 1) := by decide +kernel
theorem dX8_playWith_1 : decode cX8_playWith 1 = .ok (.lstore_n 2, 1) := by decide +kernel
theorem dX8_playWith_2 : decode cX8_playWith 2 = .ok (.lconst 1, 1) := by decide +kernel
theorem dX8_playWith_3 : decode cX8_playWith 3 = .ok (.lstore 4, 2) := by decide +kernel
theorem dX8_playWith_5 : decode cX8_playWith 5 = .ok (.iconst 0, 1) := by decide +kernel
theorem dX8_playWith_6 : decode cX8_playWith 6 = .ok (.istore 6, 2) := by decide +kernel
theorem dX8_playWith_8 : decode cX8_playWith 8 = .ok (.iload 6, 2) := by decide +kernel
theorem dX8_playWith_10 : decode cX8_playWith 10 = .ok (.aload_n 0, 1) := by decide +kernel
theorem dX8_playWith_11 : decode cX8_playWith 11 = .ok (.getfield 15, 3) := by decide +kernel
theorem dX8_playWith_14 : decode cX8_playWith 14 = .ok (.if_icmp .ge 61, 3) := by decide +kernel
theorem dX8_playWith_17 : decode cX8_playWith 17 = .ok (.aload_n 0, 1) := by decide +kernel
theorem dX8_playWith_18 : decode cX8_playWith 18 = .ok (.iload 6, 2) := by decide +kernel
theorem dX8_playWith_20 : decode cX8_playWith 20 = .ok (.invokevirtual 37, 3) := by decide +kernel
theorem dX8_playWith_23 : decode cX8_playWith 23 = .ok (.ifCond .eq 36, 3) := by decide +kernel
theorem dX8_playWith_26 : decode cX8_playWith 26 = .ok (.lload 4, 2) := by decide +kernel
theorem dX8_playWith_28 : decode cX8_playWith 28 = .ok (.aload_n 0, 1) := by decide +kernel
theorem dX8_playWith_29 : decode cX8_playWith 29 = .ok (.iload 6, 2) := by decide +kernel
theorem dX8_playWith_31 : decode cX8_playWith 31 = .ok (.iconst 2, 1) := by decide +kernel
theorem dX8_playWith_32 : decode cX8_playWith 32 = .ok (.invokevirtual 25, 3) := by decide +kernel
theorem dX8_playWith_35 : decode cX8_playWith 35 = .ok (.i2l, 1) := by decide +kernel
theorem dX8_playWith_36 : decode cX8_playWith 36 = .ok (.lmul, 1) := by decide +kernel
theorem dX8_playWith_37 : decode cX8_playWith 37 = .ok (.lstore 4, 2) := by decide +kernel
theorem dX8_playWith_39 : decode cX8_playWith 39 = .ok (.lload_n 2, 1) := by decide +kernel
theorem dX8_playWith_40 : decode cX8_playWith 40 = .ok (.aload_n 0, 1) := by decide +kernel
theorem dX8_playWith_41 : decode cX8_playWith 41 = .ok (.iload 6, 2) := by decide +kernel
theorem dX8_playWith_43 : decode cX8_playWith 43 = .ok (.iconst 1, 1) := by decide +kernel
theorem dX8_playWith_44 : decode cX8_playWith 44 = .ok (.invokevirtual 25, 3) := by decide +kernel
theorem dX8_playWith_47 : decode cX8_playWith 47 = .ok (.i2l, 1) := by decide +kernel
theorem dX8_playWith_48 : decode cX8_playWith 48 = .ok (.lmul, 1) := by decide +kernel
theorem dX8_playWith_49 : decode cX8_playWith 49 = .ok (.iload_n 1, 1) := by decide +kernel
theorem dX8_playWith_50 : decode cX8_playWith 50 = .ok (.i2l, 1) := by decide +kernel
theorem dX8_playWith_51 : decode cX8_playWith 51 = .ok (.lload 4, 2) := by decide +kernel
theorem dX8_playWith_53 : decode cX8_playWith 53 = .ok (.lmul, 1) := by decide +kernel
theorem dX8_playWith_54 : decode cX8_playWith 54 = .ok (.ladd, 1) := by decide +kernel
theorem dX8_playWith_55 : decode cX8_playWith 55 = .ok (.lstore_n 2, 1) := by decide +kernel
theorem dX8_playWith_56 : decode cX8_playWith 56 = .ok (.goto 13, 3) := by decide +kernel
theorem dX8_playWith_59 : decode cX8_playWith 59 = .ok (.lload_n 2, 1) := by decide +kernel
theorem dX8_playWith_60 : decode cX8_playWith 60 = .ok (.iconst 2, 1) := by decide +kernel
theorem dX8_playWith_61 : decode cX8_playWith 61 = .ok (.iload_n 1, 1) := by decide +kernel
theorem dX8_playWith_62 : decode cX8_playWith 62 = .ok (.imul, 1) := by decide +kernel
theorem dX8_playWith_63 : decode cX8_playWith 63 = .ok (.i2l, 1) := by decide +kernel
theorem dX8_playWith_64 : decode cX8_playWith 64 = .ok (.lload 4, 2) := by decide +kernel
theorem dX8_playWith_66 : decode cX8_playWith 66 = .ok (.lmul, 1) := by decide +kernel
theorem dX8_playWith_67 : decode cX8_playWith 67 = .ok (.ladd, 1) := by decide +kernel
theorem dX8_playWith_68 : decode cX8_playWith 68 = .ok (.lstore_n 2, 1) := by decide +kernel
theorem dX8_playWith_69 : decode cX8_playWith 69 = .ok (.iinc 6 1, 3) := by decide +kernel
theorem dX8_playWith_72 : decode cX8_playWith 72 = .ok (.goto (-64), 3) := by decide +kernel
theorem dX8_playWith_75 : decode cX8_playWith 75 = .ok (.lload 4, 2) := by decide +kernel
theorem dX8_playWith_77 : decode cX8_playWith 77 = .ok (.lconst 0, 1) := by decide +kernel
theorem dX8_playWith_78 : decode cX8_playWith 78 = .ok (.lcmp, 1) := by decide +kernel
theorem dX8_playWith_79 : decode cX8_playWith 79 = .ok (.ifCond .le 11, 3) := by decide +kernel
theorem dX8_playWith_82 : decode cX8_playWith 82 = .ok (.lload_n 2, 1) := by decide +kernel
theorem dX8_playWith_83 : decode cX8_playWith 83 = .ok (.lload 4, 2) := by decide +kernel
theorem dX8_playWith_85 : decode cX8_playWith 85 = .ok (.ldiv, 1) := by decide +kernel
theorem dX8_playWith_86 : decode cX8_playWith 86 = .ok (.l2i, 1) := by decide +kernel
theorem dX8_playWith_87 : decode cX8_playWith 87 = .ok (.goto 4, 3) := by decide +kernel
theorem dX8_playWith_90 : decode cX8_playWith 90 = .ok (.iconst 0, 1) := by decide +kernel
theorem dX8_playWith_91 : decode cX8_playWith 91 = .ok (.ireturn, 1) := by decide +kernel
theorem dX9_isOne_0 : decode cX9_isOne 0 = .ok (.iconst 0, 1) := by decide +kernel
theorem dX9_isOne_1 : decode cX9_isOne 1 = .ok (.istore_n 2, 1) := by decide +kernel
theorem dX9_isOne_2 : decode cX9_isOne 2 = .ok (.iload_n 2, 1) := by decide +kernel
theorem dX9_isOne_3 : decode cX9_isOne 3 = .ok (.getstatic 74, 3) := by decide +kernel
theorem dX9_isOne_6 : decode cX9_isOne 6 = .ok (.arraylength, 1) := by decide +kernel
theorem dX9_isOne_7 : decode cX9_isOne 7 = .ok (.if_icmp .ge 24, 3) := by decide +kernel
theorem dX9_isOne_10 : decode cX9_isOne 10 = .ok (.getstatic 74, 3) := by decide +kernel
theorem dX9_isOne_13 : decode cX9_isOne 13 = .ok (.iload_n 2, 1) := by decide +kernel
theorem dX9_isOne_14 : decode cX9_isOne 14 = .ok (.aaload, 1) := by decide +kernel
theorem dX9_isOne_15 : decode cX9_isOne 15 = .ok (.getfield 60, 3) := by decide +kernel
theorem dX9_isOne_18 : decode cX9_isOne 18 = .ok (.lload_n 0, 1) := by decide +kernel
theorem dX9_isOne_19 : decode cX9_isOne 19 = .ok (.lcmp, 1) := by decide +kernel
theorem dX9_isOne_20 : decode cX9_isOne 20 = .ok (.ifCond .ne 5, 3) := by decide +kernel
theorem dX9_isOne_23 : decode cX9_isOne 23 = .ok (.iconst 1, 1) := by decide +kernel
theorem dX9_isOne_24 : decode cX9_isOne 24 = .ok (.ireturn, 1) := by decide +kernel
theorem dX9_isOne_25 : decode cX9_isOne 25 = .ok (.iinc 2 1, 3) := by decide +kernel
theorem dX9_isOne_28 : decode cX9_isOne 28 = .ok (.goto (-26), 3) := by decide +kernel
theorem dX9_isOne_31 : decode cX9_isOne 31 = .ok (.iconst 0, 1) := by decide +kernel
theorem dX9_isOne_32 : decode cX9_isOne 32 = .ok (.ireturn, 1) := by decide +kernel
theorem dX10_init_0 : decode cX10_init 0 = .ok (.aload_n 0, 1) := by decide +kernel
theorem dX10_init_1 : decode cX10_init 1 = .ok (.invokespecial 1, 3) := by decide +kernel
theorem dX10_init_4 : decode cX10_init 4 = .ok (.aload_n 0, 1) := by decide +kernel
theorem dX10_init_5 : decode cX10_init 5 = .ok (.new 7, 3) := by decide +kernel
theorem dX10_init_8 : decode cX10_init 8 = .ok (.dup, 1) := by decide +kernel
theorem dX10_init_9 : decode cX10_init 9 = .ok (.invokespecial 9, 3) := by decide +kernel
theorem dX10_init_12 : decode cX10_init 12 = .ok (.putfield 10, 3) := by decide +kernel
theorem dX10_init_15 : decode cX10_init 15 = .ok (.aload_n 0, 1) := by decide +kernel
theorem dX10_init_16 : decode cX10_init 16 = .ok (.new 16, 3) := by decide +kernel
theorem dX10_init_19 : decode cX10_init 19 = .ok (.dup, 1) := by decide +kernel
theorem dX10_init_20 : decode cX10_init 20 = .ok (.invokespecial 18, 3) := by decide +kernel
theorem dX10_init_23 : decode cX10_init 23 = .ok (.putfield 19, 3) := by decide +kernel
theorem dX10_init_26 : decode cX10_init 26 = .ok (.aload_n 0, 1) := by decide +kernel
theorem dX10_init_27 : decode cX10_init 27 = .ok (.new 23, 3) := by decide +kernel
theorem dX10_init_30 : decode cX10_init 30 = .ok (.dup, 1) := by decide +kernel
theorem dX10_init_31 : decode cX10_init 31 = .ok (.invokespecial 25, 3) := by decide +kernel
theorem dX10_init_34 : decode cX10_init 34 = .ok (.putfield 26, 3) := by decide +kernel
theorem dX10_init_37 : decode cX10_init 37 = .ok (.aload_n 0, 1) := by decide +kernel
theorem dX10_init_38 : decode cX10_init 38 = .ok (.new 30, 3) := by decide +kernel
theorem dX10_init_41 : decode cX10_init 41 = .ok (.dup, 1) := by decide +kernel
theorem dX10_init_42 : decode cX10_init 42 = .ok (.invokespecial 32, 3) := by decide +kernel
theorem dX10_init_45 : decode cX10_init 45 = .ok (.putfield 33, 3) := by decide +kernel
theorem dX10_init_48 : decode cX10_init 48 = .ok (.aload_n 0, 1) := by decide +kernel
theorem dX10_init_49 : decode cX10_init 49 = .ok (.new 37, 3) := by decide +kernel
theorem dX10_init_52 : decode cX10_init 52 = .ok (.dup, 1) := by decide +kernel
theorem dX10_init_53 : decode cX10_init 53 = .ok (.invokespecial 39, 3) := by decide +kernel
theorem dX10_init_56 : decode cX10_init 56 = .ok (.putfield 40, 3) := by decide +kernel
theorem dX10_init_59 : decode cX10_init 59 = .ok (.aload_n 0, 1) := by decide +kernel
theorem dX10_init_60 : decode cX10_init 60 = .ok (.new 44, 3) := by decide +kernel
theorem dX10_init_63 : decode cX10_init 63 = .ok (.dup, 1) := by decide +kernel
theorem dX10_init_64 : decode cX10_init 64 = .ok (.invokespecial 46, 3) := by decide +kernel
theorem dX10_init_67 : decode cX10_init 67 = .ok (.putfield 47, 3) := by decide +kernel
theorem dX10_init_70 : decode cX10_init 70 = .ok (.aload_n 0, 1) := by decide +kernel
theorem dX10_init_71 : decode cX10_init 71 = .ok (.new 51, 3) := by decide +kernel
theorem dX10_init_74 : decode cX10_init 74 = .ok (.dup, 1) := by decide +kernel
theorem dX10_init_75 : decode cX10_init 75 = .ok (.invokespecial 53, 3) := by decide +kernel
theorem dX10_init_78 : decode cX10_init 78 = .ok (.putfield 54, 3) := by decide +kernel
theorem dX10_init_81 : decode cX10_init 81 = .ok (.aload_n 0, 1) := by decide +kernel
theorem dX10_init_82 : decode cX10_init 82 = .ok (.new 51, 3) := by decide +kernel
theorem dX10_init_85 : decode cX10_init 85 = .ok (.dup, 1) := by decide +kernel
theorem dX10_init_86 : decode cX10_init 86 = .ok (.invokespecial 53, 3) := by decide +kernel
theorem dX10_init_89 : decode cX10_init 89 = .ok (.putfield 58, 3) := by decide +kernel
theorem dX10_init_92 : decode cX10_init 92 = .ok (.aload_n 0, 1) := by decide +kernel
theorem dX10_init_93 : decode cX10_init 93 = .ok (.new 51, 3) := by decide +kernel
theorem dX10_init_96 : decode cX10_init 96 = .ok (.dup, 1) := by decide +kernel
theorem dX10_init_97 : decode cX10_init 97 = .ok (.invokespecial 53, 3) := by decide +kernel
theorem dX10_init_100 : decode cX10_init 100 = .ok (.putfield 61, 3) := by decide +kernel
theorem dX10_init_103 : decode cX10_init 103 = .ok (.aload_n 0, 1) := by decide +kernel
theorem dX10_init_104 : decode cX10_init 104 = .ok (.new 51, 3) := by decide +kernel
theorem dX10_init_107 : decode cX10_init 107 = .ok (.dup, 1) := by decide +kernel
theorem dX10_init_108 : decode cX10_init 108 = .ok (.invokespecial 53, 3) := by decide +kernel
theorem dX10_init_111 : decode cX10_init 111 = .ok (.putfield 64, 3) := by decide +kernel
theorem dX10_init_114 : decode cX10_init 114 = .ok (.aload_n 0, 1) := by decide +kernel
theorem dX10_init_115 : decode cX10_init 115 = .ok (.new 67, 3) := by decide +kernel
theorem dX10_init_118 : decode cX10_init 118 = .ok (.dup, 1) := by decide +kernel
theorem dX10_init_119 : decode cX10_init 119 = .ok (.invokespecial 69, 3) := by decide +kernel
theorem dX10_init_122 : decode cX10_init 122 = .ok (.putfield 70, 3) := by decide +kernel
theorem dX10_init_125 : decode cX10_init 125 = .ok (.aload_n 0, 1) := by decide +kernel
theorem dX10_init_126 : decode cX10_init 126 = .ok (.bipush 8, 2) := by decide +kernel
theorem dX10_init_128 : decode cX10_init 128 = .ok (.newarray .long, 2) := by decide +kernel
theorem dX10_init_130 : decode cX10_init 130 = .ok (.putfield 74, 3) := by decide +kernel
theorem dX10_init_133 : decode cX10_init 133 = .ok (.return_, 1) := by decide +kernel
theorem dX10_appendInput_0 : decode cX10_appendInput 0 = .ok (.aload_n 0, 1) := by decide +kernel
theorem dX10_appendInput_1 : decode cX10_appendInput 1 = .ok (.getfield 10, 3) := by decide +kernel
theorem dX10_appendInput_4 : decode cX10_appendInput 4 = .ok (.getfield 78, 3) := by decide +kernel
theorem dX10_appendInput_7 : decode cX10_appendInput 7 = .ok (.astore 6, 2) := by decide +kernel
theorem dX10_appendInput_9 : decode cX10_appendInput 9 = .ok (.aload 6, 2) := by decide +kernel
theorem dX10_appendInput_11 : decode cX10_appendInput 11 = .ok (.getfield 82, 3) := by decide +kernel
theorem dX10_appendInput_14 : decode cX10_appendInput 14 = .ok (.bipush 20, 2) := by decide +kernel
theorem dX10_appendInput_16 : decode cX10_appendInput 16 = .ok (.iadd, 1) := by decide +kernel
theorem dX10_appendInput_17 : decode cX10_appendInput 17 = .ok (.sipush 900, 3) := by decide +kernel
theorem dX10_appendInput_20 : decode cX10_appendInput 20 = .ok (.if_icmp .le 5, 3) := by decide +kernel
theorem dX10_appendInput_23 : decode cX10_appendInput 23 = .ok (.iconst (-1), 1) := by decide +kernel
theorem dX10_appendInput_24 : decode cX10_appendInput 24 = .ok (.ireturn, 1) := by decide +kernel
theorem dX10_appendInput_25 : decode cX10_appendInput 25 = .ok (.aload 6, 2) := by decide +kernel
theorem dX10_appendInput_27 : decode cX10_appendInput 27 = .ok (.iload_n 1, 1) := by decide +kernel
theorem dX10_appendInput_28 : decode cX10_appendInput 28 = .ok (.invokevirtual 88, 3) := by decide +kernel
theorem dX10_appendInput_31 : decode cX10_appendInput 31 = .ok (.aload 6, 2) := by decide +kernel
theorem dX10_appendInput_33 : decode cX10_appendInput 33 = .ok (.iload_n 2, 1) := by decide +kernel
theorem dX10_appendInput_34 : decode cX10_appendInput 34 = .ok (.invokevirtual 88, 3) := by decide +kernel
theorem dX10_appendInput_37 : decode cX10_appendInput 37 = .ok (.aload 6, 2) := by decide +kernel
theorem dX10_appendInput_39 : decode cX10_appendInput 39 = .ok (.iload_n 3, 1) := by decide +kernel
theorem dX10_appendInput_40 : decode cX10_appendInput 40 = .ok (.invokevirtual 88, 3) := by decide +kernel
theorem dX10_appendInput_43 : decode cX10_appendInput 43 = .ok (.aload 6, 2) := by decide +kernel
theorem dX10_appendInput_45 : decode cX10_appendInput 45 = .ok (.iload 4, 2) := by decide +kernel
theorem dX10_appendInput_47 : decode cX10_appendInput 47 = .ok (.invokevirtual 88, 3) := by decide +kernel
theorem dX10_appendInput_50 : decode cX10_appendInput 50 = .ok (.aload 6, 2) := by decide +kernel
theorem dX10_appendInput_52 : decode cX10_appendInput 52 = .ok (.iload 5, 2) := by decide +kernel
theorem dX10_appendInput_54 : decode cX10_appendInput 54 = .ok (.invokevirtual 88, 3) := by decide +kernel
theorem dX10_appendInput_57 : decode cX10_appendInput 57 = .ok (.aload 6, 2) := by decide +kernel
theorem dX10_appendInput_59 : decode cX10_appendInput 59 = .ok (.getfield 82, 3) := by decide +kernel
theorem dX10_appendInput_62 : decode cX10_appendInput 62 = .ok (.ireturn, 1) := by decide +kernel
theorem dX10_truncateInput_0 : decode cX10_truncateInput 0 = .ok (.iload_n 1, 1) := by decide +kernel
theorem dX10_truncateInput_1 : decode cX10_truncateInput 1 = .ok (.ifCond .lt 17, 3) := by decide +kernel
theorem dX10_truncateInput_4 : decode cX10_truncateInput 4 = .ok (.iload_n 1, 1) := by decide +kernel
theorem dX10_truncateInput_5 : decode cX10_truncateInput 5 = .ok (.aload_n 0, 1) := by decide +kernel
theorem dX10_truncateInput_6 : decode cX10_truncateInput 6 = .ok (.getfield 10, 3) := by decide +kernel
theorem dX10_truncateInput_9 : decode cX10_truncateInput 9 = .ok (.getfield 78, 3) := by decide +kernel
theorem dX10_truncateInput_12 : decode cX10_truncateInput 12 = .ok (.getfield 82, 3) := by decide +kernel
theorem dX10_truncateInput_15 : decode cX10_truncateInput 15 = .ok (.if_icmp .le 5, 3) := by decide +kernel
theorem dX10_truncateInput_18 : decode cX10_truncateInput 18 = .ok (.iconst 0, 1) := by decide +kernel
theorem dX10_truncateInput_19 : decode cX10_truncateInput 19 = .ok (.ireturn, 1) := by decide +kernel
theorem dX10_truncateInput_20 : decode cX10_truncateInput 20 = .ok (.aload_n 0, 1) := by decide +kernel
theorem dX10_truncateInput_21 : decode cX10_truncateInput 21 = .ok (.getfield 10, 3) := by decide +kernel
theorem dX10_truncateInput_24 : decode cX10_truncateInput 24 = .ok (.getfield 78, 3) := by decide +kernel
theorem dX10_truncateInput_27 : decode cX10_truncateInput 27 = .ok (.iload_n 1, 1) := by decide +kernel
theorem dX10_truncateInput_28 : decode cX10_truncateInput 28 = .ok (.putfield 82, 3) := by decide +kernel
theorem dX10_truncateInput_31 : decode cX10_truncateInput 31 = .ok (.iconst 1, 1) := by decide +kernel
theorem dX10_truncateInput_32 : decode cX10_truncateInput 32 = .ok (.ireturn, 1) := by decide +kernel
theorem dX10_loadDrive_0 : decode cX10_loadDrive 0 = .ok (.aload_n 0, 1) := by decide +kernel
theorem dX10_loadDrive_1 : decode cX10_loadDrive 1 = .ok (.getfield 10, 3) := by decide +kernel
theorem dX10_loadDrive_4 : decode cX10_loadDrive 4 = .ok (.invokevirtual 92, 3) := by decide +kernel
theorem dX10_loadDrive_7 : decode cX10_loadDrive 7 = .ok (.istore_n 1, 1) := by decide +kernel
theorem dX10_loadDrive_8 : decode cX10_loadDrive 8 = .ok (.aload_n 0, 1) := by decide +kernel
theorem dX10_loadDrive_9 : decode cX10_loadDrive 9 = .ok (.getfield 10, 3) := by decide +kernel
theorem dX10_loadDrive_12 : decode cX10_loadDrive 12 = .ok (.getfield 78, 3) := by decide +kernel
theorem dX10_loadDrive_15 : decode cX10_loadDrive 15 = .ok (.iconst 0, 1) := by decide +kernel
theorem dX10_loadDrive_16 : decode cX10_loadDrive 16 = .ok (.putfield 82, 3) := by decide +kernel
theorem dX10_loadDrive_19 : decode cX10_loadDrive 19 = .ok (.iload_n 1, 1) := by decide +kernel
theorem dX10_loadDrive_20 : decode cX10_loadDrive 20 = .ok (.ifCond .ne 5, 3) := by decide +kernel
theorem dX10_loadDrive_23 : decode cX10_loadDrive 23 = .ok (.iconst (-1), 1) := by decide +kernel
theorem dX10_loadDrive_24 : decode cX10_loadDrive 24 = .ok (.ireturn, 1) := by decide +kernel
theorem dX10_loadDrive_25 : decode cX10_loadDrive 25 = .ok (.aload_n 0, 1) := by decide +kernel
theorem dX10_loadDrive_26 : decode cX10_loadDrive 26 = .ok (.getfield 19, 3) := by decide +kernel
theorem dX10_loadDrive_29 : decode cX10_loadDrive 29 = .ok (.aload_n 0, 1) := by decide +kernel
theorem dX10_loadDrive_30 : decode cX10_loadDrive 30 = .ok (.getfield 10, 3) := by decide +kernel
theorem dX10_loadDrive_33 : decode cX10_loadDrive 33 = .ok (.getfield 96, 3) := by decide +kernel
theorem dX10_loadDrive_36 : decode cX10_loadDrive 36 = .ok (.invokevirtual 97, 3) := by decide +kernel
theorem dX10_loadDrive_39 : decode cX10_loadDrive 39 = .ok (.aload_n 0, 1) := by decide +kernel
theorem dX10_loadDrive_40 : decode cX10_loadDrive 40 = .ok (.getfield 26, 3) := by decide +kernel
theorem dX10_loadDrive_43 : decode cX10_loadDrive 43 = .ok (.aload_n 0, 1) := by decide +kernel
theorem dX10_loadDrive_44 : decode cX10_loadDrive 44 = .ok (.getfield 10, 3) := by decide +kernel
theorem dX10_loadDrive_47 : decode cX10_loadDrive 47 = .ok (.getfield 101, 3) := by decide +kernel
theorem dX10_loadDrive_50 : decode cX10_loadDrive 50 = .ok (.invokevirtual 102, 3) := by decide +kernel
theorem dX10_loadDrive_53 : decode cX10_loadDrive 53 = .ok (.aload_n 0, 1) := by decide +kernel
theorem dX10_loadDrive_54 : decode cX10_loadDrive 54 = .ok (.getfield 33, 3) := by decide +kernel
theorem dX10_loadDrive_57 : decode cX10_loadDrive 57 = .ok (.invokevirtual 105, 3) := by decide +kernel
theorem dX10_loadDrive_60 : decode cX10_loadDrive 60 = .ok (.aload_n 0, 1) := by decide +kernel
theorem dX10_loadDrive_61 : decode cX10_loadDrive 61 = .ok (.getfield 19, 3) := by decide +kernel
theorem dX10_loadDrive_64 : decode cX10_loadDrive 64 = .ok (.getfield 108, 3) := by decide +kernel
theorem dX10_loadDrive_67 : decode cX10_loadDrive 67 = .ok (.ireturn, 1) := by decide +kernel
theorem dX10_count_0 : decode cX10_count 0 = .ok (.iload_n 1, 1) := by decide +kernel
theorem dX10_count_1 : decode cX10_count 1 = .ok (.iconst 0, 1) := by decide +kernel
theorem dX10_count_2 : decode cX10_count 2 = .ok (.bipush 6, 2) := by decide +kernel
theorem dX10_count_4 : decode cX10_count 4 = .ok (.invokestatic 117, 3) := by decide +kernel
theorem dX10_count_7 : decode cX10_count 7 = .ok (.iload_n 1, 1) := by decide +kernel
theorem dX10_count_8 : decode cX10_count 8 = .ok (.tableswitch 88 0 5 #[40, 48, 56, 64, 72, 80], 40) := by decide +kernel
theorem dX10_count_48 : decode cX10_count 48 = .ok (.aload_n 0, 1) := by decide +kernel
theorem dX10_count_49 : decode cX10_count 49 = .ok (.getfield 19, 3) := by decide +kernel
theorem dX10_count_52 : decode cX10_count 52 = .ok (.getfield 108, 3) := by decide +kernel
theorem dX10_count_55 : decode cX10_count 55 = .ok (.ireturn, 1) := by decide +kernel
theorem dX10_count_56 : decode cX10_count 56 = .ok (.aload_n 0, 1) := by decide +kernel
theorem dX10_count_57 : decode cX10_count 57 = .ok (.getfield 26, 3) := by decide +kernel
theorem dX10_count_60 : decode cX10_count 60 = .ok (.getfield 121, 3) := by decide +kernel
theorem dX10_count_63 : decode cX10_count 63 = .ok (.ireturn, 1) := by decide +kernel
theorem dX10_count_64 : decode cX10_count 64 = .ok (.aload_n 0, 1) := by decide +kernel
theorem dX10_count_65 : decode cX10_count 65 = .ok (.getfield 19, 3) := by decide +kernel
theorem dX10_count_68 : decode cX10_count 68 = .ok (.getfield 124, 3) := by decide +kernel
theorem dX10_count_71 : decode cX10_count 71 = .ok (.ireturn, 1) := by decide +kernel
theorem dX10_count_72 : decode cX10_count 72 = .ok (.aload_n 0, 1) := by decide +kernel
theorem dX10_count_73 : decode cX10_count 73 = .ok (.getfield 26, 3) := by decide +kernel
theorem dX10_count_76 : decode cX10_count 76 = .ok (.getfield 127, 3) := by decide +kernel
theorem dX10_count_79 : decode cX10_count 79 = .ok (.ireturn, 1) := by decide +kernel
theorem dX10_count_80 : decode cX10_count 80 = .ok (.aload_n 0, 1) := by decide +kernel
theorem dX10_count_81 : decode cX10_count 81 = .ok (.getfield 26, 3) := by decide +kernel
theorem dX10_count_84 : decode cX10_count 84 = .ok (.getfield 130, 3) := by decide +kernel
theorem dX10_count_87 : decode cX10_count 87 = .ok (.ireturn, 1) := by decide +kernel
theorem dX10_count_88 : decode cX10_count 88 = .ok (.aload_n 0, 1) := by decide +kernel
theorem dX10_count_89 : decode cX10_count 89 = .ok (.getfield 33, 3) := by decide +kernel
theorem dX10_count_92 : decode cX10_count 92 = .ok (.getfield 133, 3) := by decide +kernel
theorem dX10_count_95 : decode cX10_count 95 = .ok (.ireturn, 1) := by decide +kernel
theorem dX10_count_96 : decode cX10_count 96 = .ok (.aload_n 0, 1) := by decide +kernel
theorem dX10_count_97 : decode cX10_count 97 = .ok (.invokevirtual 136, 3) := by decide +kernel
theorem dX10_count_100 : decode cX10_count 100 = .ok (.ireturn, 1) := by decide +kernel
theorem dX10_body_0 : decode cX10_body 0 = .ok (.aload_n 0, 1) := by decide +kernel
theorem dX10_body_1 : decode cX10_body 1 = .ok (.iload_n 1, 1) := by decide +kernel
theorem dX10_body_2 : decode cX10_body 2 = .ok (.invokevirtual 140, 3) := by decide +kernel
theorem dX10_body_5 : decode cX10_body 5 = .ok (.iload_n 2, 1) := by decide +kernel
theorem dX10_body_6 : decode cX10_body 6 = .ok (.iconst 0, 1) := by decide +kernel
theorem dX10_body_7 : decode cX10_body 7 = .ok (.iconst 5, 1) := by decide +kernel
theorem dX10_body_8 : decode cX10_body 8 = .ok (.invokestatic 117, 3) := by decide +kernel
theorem dX10_body_11 : decode cX10_body 11 = .ok (.iload_n 2, 1) := by decide +kernel
theorem dX10_body_12 : decode cX10_body 12 = .ok (.tableswitch 100 0 4 #[36, 46, 64, 74, 87], 36) := by decide +kernel
theorem dX10_body_48 : decode cX10_body 48 = .ok (.aload_n 0, 1) := by decide +kernel
theorem dX10_body_49 : decode cX10_body 49 = .ok (.getfield 19, 3) := by decide +kernel
theorem dX10_body_52 : decode cX10_body 52 = .ok (.getfield 143, 3) := by decide +kernel
theorem dX10_body_55 : decode cX10_body 55 = .ok (.iload_n 1, 1) := by decide +kernel
theorem dX10_body_56 : decode cX10_body 56 = .ok (.iaload, 1) := by decide +kernel
theorem dX10_body_57 : decode cX10_body 57 = .ok (.ireturn, 1) := by decide +kernel
theorem dX10_body_58 : decode cX10_body 58 = .ok (.aload_n 0, 1) := by decide +kernel
theorem dX10_body_59 : decode cX10_body 59 = .ok (.getfield 19, 3) := by decide +kernel
theorem dX10_body_62 : decode cX10_body 62 = .ok (.getfield 147, 3) := by decide +kernel
theorem dX10_body_65 : decode cX10_body 65 = .ok (.iload_n 1, 1) := by decide +kernel
theorem dX10_body_66 : decode cX10_body 66 = .ok (.baload, 1) := by decide +kernel
theorem dX10_body_67 : decode cX10_body 67 = .ok (.ifCond .eq 7, 3) := by decide +kernel
theorem dX10_body_70 : decode cX10_body 70 = .ok (.iconst 1, 1) := by decide +kernel
theorem dX10_body_71 : decode cX10_body 71 = .ok (.goto 4, 3) := by decide +kernel
theorem dX10_body_74 : decode cX10_body 74 = .ok (.iconst 0, 1) := by decide +kernel
theorem dX10_body_75 : decode cX10_body 75 = .ok (.ireturn, 1) := by decide +kernel
theorem dX10_body_76 : decode cX10_body 76 = .ok (.aload_n 0, 1) := by decide +kernel
theorem dX10_body_77 : decode cX10_body 77 = .ok (.getfield 19, 3) := by decide +kernel
theorem dX10_body_80 : decode cX10_body 80 = .ok (.getfield 151, 3) := by decide +kernel
theorem dX10_body_83 : decode cX10_body 83 = .ok (.iload_n 1, 1) := by decide +kernel
theorem dX10_body_84 : decode cX10_body 84 = .ok (.iaload, 1) := by decide +kernel
theorem dX10_body_85 : decode cX10_body 85 = .ok (.ireturn, 1) := by decide +kernel
theorem dX10_body_86 : decode cX10_body 86 = .ok (.aload_n 0, 1) := by decide +kernel
theorem dX10_body_87 : decode cX10_body 87 = .ok (.getfield 26, 3) := by decide +kernel
theorem dX10_body_90 : decode cX10_body 90 = .ok (.getfield 154, 3) := by decide +kernel
theorem dX10_body_93 : decode cX10_body 93 = .ok (.iload_n 1, 1) := by decide +kernel
theorem dX10_body_94 : decode cX10_body 94 = .ok (.aaload, 1) := by decide +kernel
theorem dX10_body_95 : decode cX10_body 95 = .ok (.getfield 158, 3) := by decide +kernel
theorem dX10_body_98 : decode cX10_body 98 = .ok (.ireturn, 1) := by decide +kernel
theorem dX10_body_99 : decode cX10_body 99 = .ok (.aload_n 0, 1) := by decide +kernel
theorem dX10_body_100 : decode cX10_body 100 = .ok (.getfield 26, 3) := by decide +kernel
theorem dX10_body_103 : decode cX10_body 103 = .ok (.getfield 154, 3) := by decide +kernel
theorem dX10_body_106 : decode cX10_body 106 = .ok (.iload_n 1, 1) := by decide +kernel
theorem dX10_body_107 : decode cX10_body 107 = .ok (.aaload, 1) := by decide +kernel
theorem dX10_body_108 : decode cX10_body 108 = .ok (.invokevirtual 159, 3) := by decide +kernel
theorem dX10_body_111 : decode cX10_body 111 = .ok (.ireturn, 1) := by decide +kernel
theorem dX10_body_112 : decode cX10_body 112 = .ok (.aload_n 0, 1) := by decide +kernel
theorem dX10_body_113 : decode cX10_body 113 = .ok (.getfield 26, 3) := by decide +kernel
theorem dX10_body_116 : decode cX10_body 116 = .ok (.getfield 154, 3) := by decide +kernel
theorem dX10_body_119 : decode cX10_body 119 = .ok (.iload_n 1, 1) := by decide +kernel
theorem dX10_body_120 : decode cX10_body 120 = .ok (.aaload, 1) := by decide +kernel
theorem dX10_body_121 : decode cX10_body 121 = .ok (.invokevirtual 162, 3) := by decide +kernel
theorem dX10_body_124 : decode cX10_body 124 = .ok (.ireturn, 1) := by decide +kernel
theorem dX10_numerator_0 : decode cX10_numerator 0 = .ok (.aload_n 0, 1) := by decide +kernel
theorem dX10_numerator_1 : decode cX10_numerator 1 = .ok (.iload_n 1, 1) := by decide +kernel
theorem dX10_numerator_2 : decode cX10_numerator 2 = .ok (.invokevirtual 140, 3) := by decide +kernel
theorem dX10_numerator_5 : decode cX10_numerator 5 = .ok (.aload_n 0, 1) := by decide +kernel
theorem dX10_numerator_6 : decode cX10_numerator 6 = .ok (.iload_n 1, 1) := by decide +kernel
theorem dX10_numerator_7 : decode cX10_numerator 7 = .ok (.aload_n 0, 1) := by decide +kernel
theorem dX10_numerator_8 : decode cX10_numerator 8 = .ok (.getfield 54, 3) := by decide +kernel
theorem dX10_numerator_11 : decode cX10_numerator 11 = .ok (.invokevirtual 181, 3) := by decide +kernel
theorem dX10_numerator_14 : decode cX10_numerator 14 = .ok (.getfield 185, 3) := by decide +kernel
theorem dX10_numerator_17 : decode cX10_numerator 17 = .ok (.lreturn, 1) := by decide +kernel
theorem dX10_denominator_0 : decode cX10_denominator 0 = .ok (.aload_n 0, 1) := by decide +kernel
theorem dX10_denominator_1 : decode cX10_denominator 1 = .ok (.iload_n 1, 1) := by decide +kernel
theorem dX10_denominator_2 : decode cX10_denominator 2 = .ok (.invokevirtual 140, 3) := by decide +kernel
theorem dX10_denominator_5 : decode cX10_denominator 5 = .ok (.aload_n 0, 1) := by decide +kernel
theorem dX10_denominator_6 : decode cX10_denominator 6 = .ok (.iload_n 1, 1) := by decide +kernel
theorem dX10_denominator_7 : decode cX10_denominator 7 = .ok (.aload_n 0, 1) := by decide +kernel
theorem dX10_denominator_8 : decode cX10_denominator 8 = .ok (.getfield 54, 3) := by decide +kernel
theorem dX10_denominator_11 : decode cX10_denominator 11 = .ok (.invokevirtual 181, 3) := by decide +kernel
theorem dX10_denominator_14 : decode cX10_denominator 14 = .ok (.getfield 189, 3) := by decide +kernel
theorem dX10_denominator_17 : decode cX10_denominator 17 = .ok (.lreturn, 1) := by decide +kernel
theorem dX10_errorBy_0 : decode cX10_errorBy 0 = .ok (.aload_n 0, 1) := by decide +kernel
theorem dX10_errorBy_1 : decode cX10_errorBy 1 = .ok (.iload_n 1, 1) := by decide +kernel
theorem dX10_errorBy_2 : decode cX10_errorBy 2 = .ok (.invokevirtual 140, 3) := by decide +kernel
theorem dX10_errorBy_5 : decode cX10_errorBy 5 = .ok (.iload_n 2, 1) := by decide +kernel
theorem dX10_errorBy_6 : decode cX10_errorBy 6 = .ok (.iconst 0, 1) := by decide +kernel
theorem dX10_errorBy_7 : decode cX10_errorBy 7 = .ok (.ldc 199, 2) := by decide +kernel
theorem dX10_errorBy_9 : decode cX10_errorBy 9 = .ok (.invokestatic 117, 3) := by decide +kernel
theorem dX10_errorBy_12 : decode cX10_errorBy 12 = .ok (.aload_n 0, 1) := by decide +kernel
theorem dX10_errorBy_13 : decode cX10_errorBy 13 = .ok (.iload_n 1, 1) := by decide +kernel
theorem dX10_errorBy_14 : decode cX10_errorBy 14 = .ok (.invokevirtual 210, 3) := by decide +kernel
theorem dX10_errorBy_17 : decode cX10_errorBy 17 = .ok (.iload_n 2, 1) := by decide +kernel
theorem dX10_errorBy_18 : decode cX10_errorBy 18 = .ok (.invokevirtual 214, 3) := by decide +kernel
theorem dX10_errorBy_21 : decode cX10_errorBy 21 = .ok (.lreturn, 1) := by decide +kernel
theorem dX10_angle_0 : decode cX10_angle 0 = .ok (.aload_n 0, 1) := by decide +kernel
theorem dX10_angle_1 : decode cX10_angle 1 = .ok (.iload_n 1, 1) := by decide +kernel
theorem dX10_angle_2 : decode cX10_angle 2 = .ok (.invokevirtual 140, 3) := by decide +kernel
theorem dX10_angle_5 : decode cX10_angle 5 = .ok (.iload_n 2, 1) := by decide +kernel
theorem dX10_angle_6 : decode cX10_angle 6 = .ok (.iconst 0, 1) := by decide +kernel
theorem dX10_angle_7 : decode cX10_angle 7 = .ok (.ldc 199, 2) := by decide +kernel
theorem dX10_angle_9 : decode cX10_angle 9 = .ok (.invokestatic 117, 3) := by decide +kernel
theorem dX10_angle_12 : decode cX10_angle 12 = .ok (.aload_n 0, 1) := by decide +kernel
theorem dX10_angle_13 : decode cX10_angle 13 = .ok (.iload_n 1, 1) := by decide +kernel
theorem dX10_angle_14 : decode cX10_angle 14 = .ok (.aload_n 0, 1) := by decide +kernel
theorem dX10_angle_15 : decode cX10_angle 15 = .ok (.getfield 54, 3) := by decide +kernel
theorem dX10_angle_18 : decode cX10_angle 18 = .ok (.invokevirtual 181, 3) := by decide +kernel
theorem dX10_angle_21 : decode cX10_angle 21 = .ok (.iload_n 2, 1) := by decide +kernel
theorem dX10_angle_22 : decode cX10_angle 22 = .ok (.invokevirtual 222, 3) := by decide +kernel
theorem dX10_angle_25 : decode cX10_angle 25 = .ok (.ireturn, 1) := by decide +kernel
theorem dX10_trueAngle_0 : decode cX10_trueAngle 0 = .ok (.aload_n 0, 1) := by decide +kernel
theorem dX10_trueAngle_1 : decode cX10_trueAngle 1 = .ok (.iload_n 1, 1) := by decide +kernel
theorem dX10_trueAngle_2 : decode cX10_trueAngle 2 = .ok (.invokevirtual 140, 3) := by decide +kernel
theorem dX10_trueAngle_5 : decode cX10_trueAngle 5 = .ok (.iload_n 2, 1) := by decide +kernel
theorem dX10_trueAngle_6 : decode cX10_trueAngle 6 = .ok (.iconst 0, 1) := by decide +kernel
theorem dX10_trueAngle_7 : decode cX10_trueAngle 7 = .ok (.ldc 199, 2) := by decide +kernel
theorem dX10_trueAngle_9 : decode cX10_trueAngle 9 = .ok (.invokestatic 117, 3) := by decide +kernel
theorem dX10_trueAngle_12 : decode cX10_trueAngle 12 = .ok (.aload_n 0, 1) := by decide +kernel
theorem dX10_trueAngle_13 : decode cX10_trueAngle 13 = .ok (.iload_n 1, 1) := by decide +kernel
theorem dX10_trueAngle_14 : decode cX10_trueAngle 14 = .ok (.aload_n 0, 1) := by decide +kernel
theorem dX10_trueAngle_15 : decode cX10_trueAngle 15 = .ok (.getfield 54, 3) := by decide +kernel
theorem dX10_trueAngle_18 : decode cX10_trueAngle 18 = .ok (.invokevirtual 225, 3) := by decide +kernel
theorem dX10_trueAngle_21 : decode cX10_trueAngle 21 = .ok (.iload_n 2, 1) := by decide +kernel
theorem dX10_trueAngle_22 : decode cX10_trueAngle 22 = .ok (.invokevirtual 222, 3) := by decide +kernel
theorem dX10_trueAngle_25 : decode cX10_trueAngle 25 = .ok (.ireturn, 1) := by decide +kernel
theorem dX10_aligned_0 : decode cX10_aligned 0 = .ok (.aload_n 0, 1) := by decide +kernel
theorem dX10_aligned_1 : decode cX10_aligned 1 = .ok (.iload_n 1, 1) := by decide +kernel
theorem dX10_aligned_2 : decode cX10_aligned 2 = .ok (.invokevirtual 140, 3) := by decide +kernel
theorem dX10_aligned_5 : decode cX10_aligned 5 = .ok (.iload_n 2, 1) := by decide +kernel
theorem dX10_aligned_6 : decode cX10_aligned 6 = .ok (.iconst 0, 1) := by decide +kernel
theorem dX10_aligned_7 : decode cX10_aligned 7 = .ok (.ldc 199, 2) := by decide +kernel
theorem dX10_aligned_9 : decode cX10_aligned 9 = .ok (.invokestatic 117, 3) := by decide +kernel
theorem dX10_aligned_12 : decode cX10_aligned 12 = .ok (.iload_n 3, 1) := by decide +kernel
theorem dX10_aligned_13 : decode cX10_aligned 13 = .ok (.iconst 0, 1) := by decide +kernel
theorem dX10_aligned_14 : decode cX10_aligned 14 = .ok (.ldc_w 281, 3) := by decide +kernel
theorem dX10_aligned_17 : decode cX10_aligned 17 = .ok (.invokestatic 117, 3) := by decide +kernel
theorem dX10_aligned_20 : decode cX10_aligned 20 = .ok (.aload_n 0, 1) := by decide +kernel
theorem dX10_aligned_21 : decode cX10_aligned 21 = .ok (.iload_n 1, 1) := by decide +kernel
theorem dX10_aligned_22 : decode cX10_aligned 22 = .ok (.aload_n 0, 1) := by decide +kernel
theorem dX10_aligned_23 : decode cX10_aligned 23 = .ok (.getfield 54, 3) := by decide +kernel
theorem dX10_aligned_26 : decode cX10_aligned 26 = .ok (.invokevirtual 181, 3) := by decide +kernel
theorem dX10_aligned_29 : decode cX10_aligned 29 = .ok (.iload_n 2, 1) := by decide +kernel
theorem dX10_aligned_30 : decode cX10_aligned 30 = .ok (.invokevirtual 222, 3) := by decide +kernel
theorem dX10_aligned_33 : decode cX10_aligned 33 = .ok (.istore 4, 2) := by decide +kernel
theorem dX10_aligned_35 : decode cX10_aligned 35 = .ok (.iconst 0, 1) := by decide +kernel
theorem dX10_aligned_36 : decode cX10_aligned 36 = .ok (.istore 5, 2) := by decide +kernel
theorem dX10_aligned_38 : decode cX10_aligned 38 = .ok (.iconst 0, 1) := by decide +kernel
theorem dX10_aligned_39 : decode cX10_aligned 39 = .ok (.istore 6, 2) := by decide +kernel
theorem dX10_aligned_41 : decode cX10_aligned 41 = .ok (.iload 6, 2) := by decide +kernel
theorem dX10_aligned_43 : decode cX10_aligned 43 = .ok (.aload_n 0, 1) := by decide +kernel
theorem dX10_aligned_44 : decode cX10_aligned 44 = .ok (.getfield 19, 3) := by decide +kernel
theorem dX10_aligned_47 : decode cX10_aligned 47 = .ok (.getfield 108, 3) := by decide +kernel
theorem dX10_aligned_50 : decode cX10_aligned 50 = .ok (.if_icmp .ge 41, 3) := by decide +kernel
theorem dX10_aligned_53 : decode cX10_aligned 53 = .ok (.iload 4, 2) := by decide +kernel
theorem dX10_aligned_55 : decode cX10_aligned 55 = .ok (.aload_n 0, 1) := by decide +kernel
theorem dX10_aligned_56 : decode cX10_aligned 56 = .ok (.iload 6, 2) := by decide +kernel
theorem dX10_aligned_58 : decode cX10_aligned 58 = .ok (.aload_n 0, 1) := by decide +kernel
theorem dX10_aligned_59 : decode cX10_aligned 59 = .ok (.getfield 58, 3) := by decide +kernel
theorem dX10_aligned_62 : decode cX10_aligned 62 = .ok (.invokevirtual 181, 3) := by decide +kernel
theorem dX10_aligned_65 : decode cX10_aligned 65 = .ok (.iload_n 2, 1) := by decide +kernel
theorem dX10_aligned_66 : decode cX10_aligned 66 = .ok (.invokevirtual 222, 3) := by decide +kernel
theorem dX10_aligned_69 : decode cX10_aligned 69 = .ok (.invokestatic 282, 3) := by decide +kernel
theorem dX10_aligned_72 : decode cX10_aligned 72 = .ok (.iload_n 3, 1) := by decide +kernel
theorem dX10_aligned_73 : decode cX10_aligned 73 = .ok (.if_icmp .gt 12, 3) := by decide +kernel
theorem dX10_aligned_76 : decode cX10_aligned 76 = .ok (.iload 5, 2) := by decide +kernel
theorem dX10_aligned_78 : decode cX10_aligned 78 = .ok (.iconst 1, 1) := by decide +kernel
theorem dX10_aligned_79 : decode cX10_aligned 79 = .ok (.iload 6, 2) := by decide +kernel
theorem dX10_aligned_81 : decode cX10_aligned 81 = .ok (.ishl, 1) := by decide +kernel
theorem dX10_aligned_82 : decode cX10_aligned 82 = .ok (.ior, 1) := by decide +kernel
theorem dX10_aligned_83 : decode cX10_aligned 83 = .ok (.istore 5, 2) := by decide +kernel
theorem dX10_aligned_85 : decode cX10_aligned 85 = .ok (.iinc 6 1, 3) := by decide +kernel
theorem dX10_aligned_88 : decode cX10_aligned 88 = .ok (.goto (-47), 3) := by decide +kernel
theorem dX10_aligned_91 : decode cX10_aligned 91 = .ok (.iload 5, 2) := by decide +kernel
theorem dX10_aligned_93 : decode cX10_aligned 93 = .ok (.ireturn, 1) := by decide +kernel
theorem dX10_addPart_0 : decode cX10_addPart 0 = .ok (.aload_n 0, 1) := by decide +kernel
theorem dX10_addPart_1 : decode cX10_addPart 1 = .ok (.iload_n 1, 1) := by decide +kernel
theorem dX10_addPart_2 : decode cX10_addPart 2 = .ok (.invokevirtual 140, 3) := by decide +kernel
theorem dX10_addPart_5 : decode cX10_addPart 5 = .ok (.iload_n 2, 1) := by decide +kernel
theorem dX10_addPart_6 : decode cX10_addPart 6 = .ok (.iconst 0, 1) := by decide +kernel
theorem dX10_addPart_7 : decode cX10_addPart 7 = .ok (.iconst 2, 1) := by decide +kernel
theorem dX10_addPart_8 : decode cX10_addPart 8 = .ok (.invokestatic 117, 3) := by decide +kernel
theorem dX10_addPart_11 : decode cX10_addPart 11 = .ok (.iload_n 3, 1) := by decide +kernel
theorem dX10_addPart_12 : decode cX10_addPart 12 = .ok (.bipush 8, 2) := by decide +kernel
theorem dX10_addPart_14 : decode cX10_addPart 14 = .ok (.bipush 100, 2) := by decide +kernel
theorem dX10_addPart_16 : decode cX10_addPart 16 = .ok (.invokestatic 117, 3) := by decide +kernel
theorem dX10_addPart_19 : decode cX10_addPart 19 = .ok (.iload_n 2, 1) := by decide +kernel
theorem dX10_addPart_20 : decode cX10_addPart 20 = .ok (.iconst 2, 1) := by decide +kernel
theorem dX10_addPart_21 : decode cX10_addPart 21 = .ok (.if_icmp .ne 13, 3) := by decide +kernel
theorem dX10_addPart_24 : decode cX10_addPart 24 = .ok (.iload 4, 2) := by decide +kernel
theorem dX10_addPart_26 : decode cX10_addPart 26 = .ok (.iconst 0, 1) := by decide +kernel
theorem dX10_addPart_27 : decode cX10_addPart 27 = .ok (.iconst 0, 1) := by decide +kernel
theorem dX10_addPart_28 : decode cX10_addPart 28 = .ok (.invokestatic 117, 3) := by decide +kernel
theorem dX10_addPart_31 : decode cX10_addPart 31 = .ok (.goto 12, 3) := by decide +kernel
theorem dX10_addPart_34 : decode cX10_addPart 34 = .ok (.iload 4, 2) := by decide +kernel
theorem dX10_addPart_36 : decode cX10_addPart 36 = .ok (.bipush 8, 2) := by decide +kernel
theorem dX10_addPart_38 : decode cX10_addPart 38 = .ok (.bipush 100, 2) := by decide +kernel
theorem dX10_addPart_40 : decode cX10_addPart 40 = .ok (.invokestatic 117, 3) := by decide +kernel
theorem dX10_addPart_43 : decode cX10_addPart 43 = .ok (.aload_n 0, 1) := by decide +kernel
theorem dX10_addPart_44 : decode cX10_addPart 44 = .ok (.getfield 26, 3) := by decide +kernel
theorem dX10_addPart_47 : decode cX10_addPart 47 = .ok (.getfield 154, 3) := by decide +kernel
theorem dX10_addPart_50 : decode cX10_addPart 50 = .ok (.iload_n 1, 1) := by decide +kernel
theorem dX10_addPart_51 : decode cX10_addPart 51 = .ok (.aaload, 1) := by decide +kernel
theorem dX10_addPart_52 : decode cX10_addPart 52 = .ok (.astore 5, 2) := by decide +kernel
theorem dX10_addPart_54 : decode cX10_addPart 54 = .ok (.aload 5, 2) := by decide +kernel
theorem dX10_addPart_56 : decode cX10_addPart 56 = .ok (.iload_n 2, 1) := by decide +kernel
theorem dX10_addPart_57 : decode cX10_addPart 57 = .ok (.invokevirtual 313, 3) := by decide +kernel
theorem dX10_addPart_60 : decode cX10_addPart 60 = .ok (.ifCond .ne 14, 3) := by decide +kernel
theorem dX10_addPart_63 : decode cX10_addPart 63 = .ok (.new 299, 3) := by decide +kernel
theorem dX10_addPart_66 : decode cX10_addPart 66 = .ok (.dup, 1) := by decide +kernel
theorem dX10_addPart_67 : decode cX10_addPart 67 = .ok (.ldc_w 316, 3) := by decide +kernel
theorem dX10_addPart_70 : decode cX10_addPart 70 = .ok (.invokespecial 303, 3) := by decide +kernel
theorem dX10_addPart_73 : decode cX10_addPart 73 = .ok (.athrow, 1) := by decide +kernel
theorem dX10_addPart_74 : decode cX10_addPart 74 = .ok (.aload_n 0, 1) := by decide +kernel
theorem dX10_addPart_75 : decode cX10_addPart 75 = .ok (.getfield 33, 3) := by decide +kernel
theorem dX10_addPart_78 : decode cX10_addPart 78 = .ok (.aload_n 0, 1) := by decide +kernel
theorem dX10_addPart_79 : decode cX10_addPart 79 = .ok (.getfield 26, 3) := by decide +kernel
theorem dX10_addPart_82 : decode cX10_addPart 82 = .ok (.invokevirtual 304, 3) := by decide +kernel
theorem dX10_addPart_85 : decode cX10_addPart 85 = .ok (.aload 5, 2) := by decide +kernel
theorem dX10_addPart_87 : decode cX10_addPart 87 = .ok (.iload_n 2, 1) := by decide +kernel
theorem dX10_addPart_88 : decode cX10_addPart 88 = .ok (.iload_n 3, 1) := by decide +kernel
theorem dX10_addPart_89 : decode cX10_addPart 89 = .ok (.iload 4, 2) := by decide +kernel
theorem dX10_addPart_91 : decode cX10_addPart 91 = .ok (.invokevirtual 307, 3) := by decide +kernel
theorem dX10_addPart_94 : decode cX10_addPart 94 = .ok (.aload_n 0, 1) := by decide +kernel
theorem dX10_addPart_95 : decode cX10_addPart 95 = .ok (.getfield 26, 3) := by decide +kernel
theorem dX10_addPart_98 : decode cX10_addPart 98 = .ok (.getfield 310, 3) := by decide +kernel
theorem dX10_addPart_101 : decode cX10_addPart 101 = .ok (.iload_n 1, 1) := by decide +kernel
theorem dX10_addPart_102 : decode cX10_addPart 102 = .ok (.iconst 0, 1) := by decide +kernel
theorem dX10_addPart_103 : decode cX10_addPart 103 = .ok (.iastore, 1) := by decide +kernel
theorem dX10_addPart_104 : decode cX10_addPart 104 = .ok (.aload 5, 2) := by decide +kernel
theorem dX10_addPart_106 : decode cX10_addPart 106 = .ok (.getfield 158, 3) := by decide +kernel
theorem dX10_addPart_109 : decode cX10_addPart 109 = .ok (.ireturn, 1) := by decide +kernel
theorem dX10_removePart_0 : decode cX10_removePart 0 = .ok (.aload_n 0, 1) := by decide +kernel
theorem dX10_removePart_1 : decode cX10_removePart 1 = .ok (.iload_n 1, 1) := by decide +kernel
theorem dX10_removePart_2 : decode cX10_removePart 2 = .ok (.invokevirtual 140, 3) := by decide +kernel
theorem dX10_removePart_5 : decode cX10_removePart 5 = .ok (.aload_n 0, 1) := by decide +kernel
theorem dX10_removePart_6 : decode cX10_removePart 6 = .ok (.getfield 26, 3) := by decide +kernel
theorem dX10_removePart_9 : decode cX10_removePart 9 = .ok (.getfield 154, 3) := by decide +kernel
theorem dX10_removePart_12 : decode cX10_removePart 12 = .ok (.iload_n 1, 1) := by decide +kernel
theorem dX10_removePart_13 : decode cX10_removePart 13 = .ok (.aaload, 1) := by decide +kernel
theorem dX10_removePart_14 : decode cX10_removePart 14 = .ok (.astore_n 2, 1) := by decide +kernel
theorem dX10_removePart_15 : decode cX10_removePart 15 = .ok (.aload_n 2, 1) := by decide +kernel
theorem dX10_removePart_16 : decode cX10_removePart 16 = .ok (.getfield 158, 3) := by decide +kernel
theorem dX10_removePart_19 : decode cX10_removePart 19 = .ok (.ifCond .ne 14, 3) := by decide +kernel
theorem dX10_removePart_22 : decode cX10_removePart 22 = .ok (.new 299, 3) := by decide +kernel
theorem dX10_removePart_25 : decode cX10_removePart 25 = .ok (.dup, 1) := by decide +kernel
theorem dX10_removePart_26 : decode cX10_removePart 26 = .ok (.ldc_w 318, 3) := by decide +kernel
theorem dX10_removePart_29 : decode cX10_removePart 29 = .ok (.invokespecial 303, 3) := by decide +kernel
theorem dX10_removePart_32 : decode cX10_removePart 32 = .ok (.athrow, 1) := by decide +kernel
theorem dX10_removePart_33 : decode cX10_removePart 33 = .ok (.aload_n 0, 1) := by decide +kernel
theorem dX10_removePart_34 : decode cX10_removePart 34 = .ok (.getfield 33, 3) := by decide +kernel
theorem dX10_removePart_37 : decode cX10_removePart 37 = .ok (.aload_n 0, 1) := by decide +kernel
theorem dX10_removePart_38 : decode cX10_removePart 38 = .ok (.getfield 26, 3) := by decide +kernel
theorem dX10_removePart_41 : decode cX10_removePart 41 = .ok (.invokevirtual 304, 3) := by decide +kernel
theorem dX10_removePart_44 : decode cX10_removePart 44 = .ok (.aload_n 2, 1) := by decide +kernel
theorem dX10_removePart_45 : decode cX10_removePart 45 = .ok (.dup, 1) := by decide +kernel
theorem dX10_removePart_46 : decode cX10_removePart 46 = .ok (.getfield 158, 3) := by decide +kernel
theorem dX10_removePart_49 : decode cX10_removePart 49 = .ok (.iconst 1, 1) := by decide +kernel
theorem dX10_removePart_50 : decode cX10_removePart 50 = .ok (.isub, 1) := by decide +kernel
theorem dX10_removePart_51 : decode cX10_removePart 51 = .ok (.putfield 158, 3) := by decide +kernel
theorem dX10_removePart_54 : decode cX10_removePart 54 = .ok (.aload_n 0, 1) := by decide +kernel
theorem dX10_removePart_55 : decode cX10_removePart 55 = .ok (.getfield 26, 3) := by decide +kernel
theorem dX10_removePart_58 : decode cX10_removePart 58 = .ok (.getfield 310, 3) := by decide +kernel
theorem dX10_removePart_61 : decode cX10_removePart 61 = .ok (.iload_n 1, 1) := by decide +kernel
theorem dX10_removePart_62 : decode cX10_removePart 62 = .ok (.iconst 0, 1) := by decide +kernel
theorem dX10_removePart_63 : decode cX10_removePart 63 = .ok (.iastore, 1) := by decide +kernel
theorem dX10_removePart_64 : decode cX10_removePart 64 = .ok (.aload_n 2, 1) := by decide +kernel
theorem dX10_removePart_65 : decode cX10_removePart 65 = .ok (.getfield 158, 3) := by decide +kernel
theorem dX10_removePart_68 : decode cX10_removePart 68 = .ok (.ireturn, 1) := by decide +kernel
theorem dX10_setSlack_0 : decode cX10_setSlack 0 = .ok (.iload_n 1, 1) := by decide +kernel
theorem dX10_setSlack_1 : decode cX10_setSlack 1 = .ok (.iconst 0, 1) := by decide +kernel
theorem dX10_setSlack_2 : decode cX10_setSlack 2 = .ok (.sipush 999, 3) := by decide +kernel
theorem dX10_setSlack_5 : decode cX10_setSlack 5 = .ok (.invokestatic 117, 3) := by decide +kernel
theorem dX10_setSlack_8 : decode cX10_setSlack 8 = .ok (.aload_n 0, 1) := by decide +kernel
theorem dX10_setSlack_9 : decode cX10_setSlack 9 = .ok (.getfield 26, 3) := by decide +kernel
theorem dX10_setSlack_12 : decode cX10_setSlack 12 = .ok (.getfield 127, 3) := by decide +kernel
theorem dX10_setSlack_15 : decode cX10_setSlack 15 = .ok (.istore_n 2, 1) := by decide +kernel
theorem dX10_setSlack_16 : decode cX10_setSlack 16 = .ok (.aload_n 0, 1) := by decide +kernel
theorem dX10_setSlack_17 : decode cX10_setSlack 17 = .ok (.getfield 33, 3) := by decide +kernel
theorem dX10_setSlack_20 : decode cX10_setSlack 20 = .ok (.aload_n 0, 1) := by decide +kernel
theorem dX10_setSlack_21 : decode cX10_setSlack 21 = .ok (.getfield 26, 3) := by decide +kernel
theorem dX10_setSlack_24 : decode cX10_setSlack 24 = .ok (.invokevirtual 304, 3) := by decide +kernel
theorem dX10_setSlack_27 : decode cX10_setSlack 27 = .ok (.aload_n 0, 1) := by decide +kernel
theorem dX10_setSlack_28 : decode cX10_setSlack 28 = .ok (.getfield 26, 3) := by decide +kernel
theorem dX10_setSlack_31 : decode cX10_setSlack 31 = .ok (.iload_n 1, 1) := by decide +kernel
theorem dX10_setSlack_32 : decode cX10_setSlack 32 = .ok (.putfield 127, 3) := by decide +kernel
theorem dX10_setSlack_35 : decode cX10_setSlack 35 = .ok (.aload_n 0, 1) := by decide +kernel
theorem dX10_setSlack_36 : decode cX10_setSlack 36 = .ok (.getfield 26, 3) := by decide +kernel
theorem dX10_setSlack_39 : decode cX10_setSlack 39 = .ok (.invokevirtual 331, 3) := by decide +kernel
theorem dX10_setSlack_42 : decode cX10_setSlack 42 = .ok (.iload_n 2, 1) := by decide +kernel
theorem dX10_setSlack_43 : decode cX10_setSlack 43 = .ok (.ireturn, 1) := by decide +kernel
theorem dX10_crank_0 : decode cX10_crank 0 = .ok (.iload_n 1, 1) := by decide +kernel
theorem dX10_crank_1 : decode cX10_crank 1 = .ok (.iconst 0, 1) := by decide +kernel
theorem dX10_crank_2 : decode cX10_crank 2 = .ok (.ldc 199, 2) := by decide +kernel
theorem dX10_crank_4 : decode cX10_crank 4 = .ok (.invokestatic 117, 3) := by decide +kernel
theorem dX10_crank_7 : decode cX10_crank 7 = .ok (.aload_n 0, 1) := by decide +kernel
theorem dX10_crank_8 : decode cX10_crank 8 = .ok (.getfield 26, 3) := by decide +kernel
theorem dX10_crank_11 : decode cX10_crank 11 = .ok (.getfield 130, 3) := by decide +kernel
theorem dX10_crank_14 : decode cX10_crank 14 = .ok (.istore_n 2, 1) := by decide +kernel
theorem dX10_crank_15 : decode cX10_crank 15 = .ok (.aload_n 0, 1) := by decide +kernel
theorem dX10_crank_16 : decode cX10_crank 16 = .ok (.getfield 33, 3) := by decide +kernel
theorem dX10_crank_19 : decode cX10_crank 19 = .ok (.aload_n 0, 1) := by decide +kernel
theorem dX10_crank_20 : decode cX10_crank 20 = .ok (.getfield 26, 3) := by decide +kernel
theorem dX10_crank_23 : decode cX10_crank 23 = .ok (.invokevirtual 304, 3) := by decide +kernel
theorem dX10_crank_26 : decode cX10_crank 26 = .ok (.iconst 0, 1) := by decide +kernel
theorem dX10_crank_27 : decode cX10_crank 27 = .ok (.istore_n 3, 1) := by decide +kernel
theorem dX10_crank_28 : decode cX10_crank 28 = .ok (.iload_n 3, 1) := by decide +kernel
theorem dX10_crank_29 : decode cX10_crank 29 = .ok (.aload_n 0, 1) := by decide +kernel
theorem dX10_crank_30 : decode cX10_crank 30 = .ok (.getfield 19, 3) := by decide +kernel
theorem dX10_crank_33 : decode cX10_crank 33 = .ok (.getfield 108, 3) := by decide +kernel
theorem dX10_crank_36 : decode cX10_crank 36 = .ok (.if_icmp .ge 89, 3) := by decide +kernel
theorem dX10_crank_39 : decode cX10_crank 39 = .ok (.aload_n 0, 1) := by decide +kernel
theorem dX10_crank_40 : decode cX10_crank 40 = .ok (.iload_n 3, 1) := by decide +kernel
theorem dX10_crank_41 : decode cX10_crank 41 = .ok (.aload_n 0, 1) := by decide +kernel
theorem dX10_crank_42 : decode cX10_crank 42 = .ok (.getfield 54, 3) := by decide +kernel
theorem dX10_crank_45 : decode cX10_crank 45 = .ok (.invokevirtual 181, 3) := by decide +kernel
theorem dX10_crank_48 : decode cX10_crank 48 = .ok (.astore 4, 2) := by decide +kernel
theorem dX10_crank_50 : decode cX10_crank 50 = .ok (.aload 4, 2) := by decide +kernel
theorem dX10_crank_52 : decode cX10_crank 52 = .ok (.iload_n 1, 1) := by decide +kernel
theorem dX10_crank_53 : decode cX10_crank 53 = .ok (.invokevirtual 334, 3) := by decide +kernel
theorem dX10_crank_56 : decode cX10_crank 56 = .ok (.aload 4, 2) := by decide +kernel
theorem dX10_crank_58 : decode cX10_crank 58 = .ok (.iload_n 2, 1) := by decide +kernel
theorem dX10_crank_59 : decode cX10_crank 59 = .ok (.invokevirtual 334, 3) := by decide +kernel
theorem dX10_crank_62 : decode cX10_crank 62 = .ok (.lsub, 1) := by decide +kernel
theorem dX10_crank_63 : decode cX10_crank 63 = .ok (.lstore 5, 2) := by decide +kernel
theorem dX10_crank_65 : decode cX10_crank 65 = .ok (.aload_n 0, 1) := by decide +kernel
theorem dX10_crank_66 : decode cX10_crank 66 = .ok (.getfield 26, 3) := by decide +kernel
theorem dX10_crank_69 : decode cX10_crank 69 = .ok (.getfield 154, 3) := by decide +kernel
theorem dX10_crank_72 : decode cX10_crank 72 = .ok (.iload_n 3, 1) := by decide +kernel
theorem dX10_crank_73 : decode cX10_crank 73 = .ok (.aaload, 1) := by decide +kernel
theorem dX10_crank_74 : decode cX10_crank 74 = .ok (.aload_n 0, 1) := by decide +kernel
theorem dX10_crank_75 : decode cX10_crank 75 = .ok (.getfield 26, 3) := by decide +kernel
theorem dX10_crank_78 : decode cX10_crank 78 = .ok (.getfield 127, 3) := by decide +kernel
theorem dX10_crank_81 : decode cX10_crank 81 = .ok (.invokevirtual 337, 3) := by decide +kernel
theorem dX10_crank_84 : decode cX10_crank 84 = .ok (.istore 7, 2) := by decide +kernel
theorem dX10_crank_86 : decode cX10_crank 86 = .ok (.aload_n 0, 1) := by decide +kernel
theorem dX10_crank_87 : decode cX10_crank 87 = .ok (.getfield 26, 3) := by decide +kernel
theorem dX10_crank_90 : decode cX10_crank 90 = .ok (.getfield 310, 3) := by decide +kernel
theorem dX10_crank_93 : decode cX10_crank 93 = .ok (.iload_n 3, 1) := by decide +kernel
theorem dX10_crank_94 : decode cX10_crank 94 = .ok (.lconst 0, 1) := by decide +kernel
theorem dX10_crank_95 : decode cX10_crank 95 = .ok (.iload 7, 2) := by decide +kernel
theorem dX10_crank_97 : decode cX10_crank 97 = .ok (.i2l, 1) := by decide +kernel
theorem dX10_crank_98 : decode cX10_crank 98 = .ok (.aload_n 0, 1) := by decide +kernel
theorem dX10_crank_99 : decode cX10_crank 99 = .ok (.getfield 26, 3) := by decide +kernel
theorem dX10_crank_102 : decode cX10_crank 102 = .ok (.getfield 310, 3) := by decide +kernel
theorem dX10_crank_105 : decode cX10_crank 105 = .ok (.iload_n 3, 1) := by decide +kernel
theorem dX10_crank_106 : decode cX10_crank 106 = .ok (.iaload, 1) := by decide +kernel
theorem dX10_crank_107 : decode cX10_crank 107 = .ok (.i2l, 1) := by decide +kernel
theorem dX10_crank_108 : decode cX10_crank 108 = .ok (.lload 5, 2) := by decide +kernel
theorem dX10_crank_110 : decode cX10_crank 110 = .ok (.lsub, 1) := by decide +kernel
theorem dX10_crank_111 : decode cX10_crank 111 = .ok (.invokestatic 340, 3) := by decide +kernel
theorem dX10_crank_114 : decode cX10_crank 114 = .ok (.invokestatic 250, 3) := by decide +kernel
theorem dX10_crank_117 : decode cX10_crank 117 = .ok (.l2i, 1) := by decide +kernel
theorem dX10_crank_118 : decode cX10_crank 118 = .ok (.iastore, 1) := by decide +kernel
theorem dX10_crank_119 : decode cX10_crank 119 = .ok (.iinc 3 1, 3) := by decide +kernel
theorem dX10_crank_122 : decode cX10_crank 122 = .ok (.goto (-94), 3) := by decide +kernel
theorem dX10_crank_125 : decode cX10_crank 125 = .ok (.aload_n 0, 1) := by decide +kernel
theorem dX10_crank_126 : decode cX10_crank 126 = .ok (.getfield 26, 3) := by decide +kernel
theorem dX10_crank_129 : decode cX10_crank 129 = .ok (.iload_n 1, 1) := by decide +kernel
theorem dX10_crank_130 : decode cX10_crank 130 = .ok (.putfield 130, 3) := by decide +kernel
theorem dX10_crank_133 : decode cX10_crank 133 = .ok (.iload_n 2, 1) := by decide +kernel
theorem dX10_crank_134 : decode cX10_crank 134 = .ok (.ireturn, 1) := by decide +kernel
theorem dX10_swapTrains_0 : decode cX10_swapTrains 0 = .ok (.aload_n 0, 1) := by decide +kernel
theorem dX10_swapTrains_1 : decode cX10_swapTrains 1 = .ok (.iload_n 1, 1) := by decide +kernel
theorem dX10_swapTrains_2 : decode cX10_swapTrains 2 = .ok (.iload_n 2, 1) := by decide +kernel
theorem dX10_swapTrains_3 : decode cX10_swapTrains 3 = .ok (.invokevirtual 353, 3) := by decide +kernel
theorem dX10_swapTrains_6 : decode cX10_swapTrains 6 = .ok (.aload_n 0, 1) := by decide +kernel
theorem dX10_swapTrains_7 : decode cX10_swapTrains 7 = .ok (.getfield 33, 3) := by decide +kernel
theorem dX10_swapTrains_10 : decode cX10_swapTrains 10 = .ok (.aload_n 0, 1) := by decide +kernel
theorem dX10_swapTrains_11 : decode cX10_swapTrains 11 = .ok (.getfield 26, 3) := by decide +kernel
theorem dX10_swapTrains_14 : decode cX10_swapTrains 14 = .ok (.invokevirtual 304, 3) := by decide +kernel
theorem dX10_swapTrains_17 : decode cX10_swapTrains 17 = .ok (.aload_n 0, 1) := by decide +kernel
theorem dX10_swapTrains_18 : decode cX10_swapTrains 18 = .ok (.getfield 70, 3) := by decide +kernel
theorem dX10_swapTrains_21 : decode cX10_swapTrains 21 = .ok (.aload_n 0, 1) := by decide +kernel
theorem dX10_swapTrains_22 : decode cX10_swapTrains 22 = .ok (.getfield 26, 3) := by decide +kernel
theorem dX10_swapTrains_25 : decode cX10_swapTrains 25 = .ok (.getfield 154, 3) := by decide +kernel
theorem dX10_swapTrains_28 : decode cX10_swapTrains 28 = .ok (.iload_n 1, 1) := by decide +kernel
theorem dX10_swapTrains_29 : decode cX10_swapTrains 29 = .ok (.aaload, 1) := by decide +kernel
theorem dX10_swapTrains_30 : decode cX10_swapTrains 30 = .ok (.invokevirtual 356, 3) := by decide +kernel
theorem dX10_swapTrains_33 : decode cX10_swapTrains 33 = .ok (.aload_n 0, 1) := by decide +kernel
theorem dX10_swapTrains_34 : decode cX10_swapTrains 34 = .ok (.getfield 26, 3) := by decide +kernel
theorem dX10_swapTrains_37 : decode cX10_swapTrains 37 = .ok (.getfield 154, 3) := by decide +kernel
theorem dX10_swapTrains_40 : decode cX10_swapTrains 40 = .ok (.iload_n 1, 1) := by decide +kernel
theorem dX10_swapTrains_41 : decode cX10_swapTrains 41 = .ok (.aaload, 1) := by decide +kernel
theorem dX10_swapTrains_42 : decode cX10_swapTrains 42 = .ok (.aload_n 0, 1) := by decide +kernel
theorem dX10_swapTrains_43 : decode cX10_swapTrains 43 = .ok (.getfield 26, 3) := by decide +kernel
theorem dX10_swapTrains_46 : decode cX10_swapTrains 46 = .ok (.getfield 154, 3) := by decide +kernel
theorem dX10_swapTrains_49 : decode cX10_swapTrains 49 = .ok (.iload_n 2, 1) := by decide +kernel
theorem dX10_swapTrains_50 : decode cX10_swapTrains 50 = .ok (.aaload, 1) := by decide +kernel
theorem dX10_swapTrains_51 : decode cX10_swapTrains 51 = .ok (.invokevirtual 356, 3) := by decide +kernel
theorem dX10_swapTrains_54 : decode cX10_swapTrains 54 = .ok (.aload_n 0, 1) := by decide +kernel
theorem dX10_swapTrains_55 : decode cX10_swapTrains 55 = .ok (.getfield 26, 3) := by decide +kernel
theorem dX10_swapTrains_58 : decode cX10_swapTrains 58 = .ok (.getfield 154, 3) := by decide +kernel
theorem dX10_swapTrains_61 : decode cX10_swapTrains 61 = .ok (.iload_n 2, 1) := by decide +kernel
theorem dX10_swapTrains_62 : decode cX10_swapTrains 62 = .ok (.aaload, 1) := by decide +kernel
theorem dX10_swapTrains_63 : decode cX10_swapTrains 63 = .ok (.aload_n 0, 1) := by decide +kernel
theorem dX10_swapTrains_64 : decode cX10_swapTrains 64 = .ok (.getfield 70, 3) := by decide +kernel
theorem dX10_swapTrains_67 : decode cX10_swapTrains 67 = .ok (.invokevirtual 356, 3) := by decide +kernel
theorem dX10_swapTrains_70 : decode cX10_swapTrains 70 = .ok (.aload_n 0, 1) := by decide +kernel
theorem dX10_swapTrains_71 : decode cX10_swapTrains 71 = .ok (.getfield 26, 3) := by decide +kernel
theorem dX10_swapTrains_74 : decode cX10_swapTrains 74 = .ok (.getfield 310, 3) := by decide +kernel
theorem dX10_swapTrains_77 : decode cX10_swapTrains 77 = .ok (.iload_n 1, 1) := by decide +kernel
theorem dX10_swapTrains_78 : decode cX10_swapTrains 78 = .ok (.iconst 0, 1) := by decide +kernel
theorem dX10_swapTrains_79 : decode cX10_swapTrains 79 = .ok (.iastore, 1) := by decide +kernel
theorem dX10_swapTrains_80 : decode cX10_swapTrains 80 = .ok (.aload_n 0, 1) := by decide +kernel
theorem dX10_swapTrains_81 : decode cX10_swapTrains 81 = .ok (.getfield 26, 3) := by decide +kernel
theorem dX10_swapTrains_84 : decode cX10_swapTrains 84 = .ok (.getfield 310, 3) := by decide +kernel
theorem dX10_swapTrains_87 : decode cX10_swapTrains 87 = .ok (.iload_n 2, 1) := by decide +kernel
theorem dX10_swapTrains_88 : decode cX10_swapTrains 88 = .ok (.iconst 0, 1) := by decide +kernel
theorem dX10_swapTrains_89 : decode cX10_swapTrains 89 = .ok (.iastore, 1) := by decide +kernel
theorem dX10_swapTrains_90 : decode cX10_swapTrains 90 = .ok (.aload_n 0, 1) := by decide +kernel
theorem dX10_swapTrains_91 : decode cX10_swapTrains 91 = .ok (.getfield 26, 3) := by decide +kernel
theorem dX10_swapTrains_94 : decode cX10_swapTrains 94 = .ok (.getfield 154, 3) := by decide +kernel
theorem dX10_swapTrains_97 : decode cX10_swapTrains 97 = .ok (.iload_n 1, 1) := by decide +kernel
theorem dX10_swapTrains_98 : decode cX10_swapTrains 98 = .ok (.aaload, 1) := by decide +kernel
theorem dX10_swapTrains_99 : decode cX10_swapTrains 99 = .ok (.getfield 158, 3) := by decide +kernel
theorem dX10_swapTrains_102 : decode cX10_swapTrains 102 = .ok (.ireturn, 1) := by decide +kernel
theorem dX10_copyTrain_0 : decode cX10_copyTrain 0 = .ok (.aload_n 0, 1) := by decide +kernel
theorem dX10_copyTrain_1 : decode cX10_copyTrain 1 = .ok (.iload_n 1, 1) := by decide +kernel
theorem dX10_copyTrain_2 : decode cX10_copyTrain 2 = .ok (.iload_n 2, 1) := by decide +kernel
theorem dX10_copyTrain_3 : decode cX10_copyTrain 3 = .ok (.invokevirtual 353, 3) := by decide +kernel
theorem dX10_copyTrain_6 : decode cX10_copyTrain 6 = .ok (.aload_n 0, 1) := by decide +kernel
theorem dX10_copyTrain_7 : decode cX10_copyTrain 7 = .ok (.getfield 33, 3) := by decide +kernel
theorem dX10_copyTrain_10 : decode cX10_copyTrain 10 = .ok (.aload_n 0, 1) := by decide +kernel
theorem dX10_copyTrain_11 : decode cX10_copyTrain 11 = .ok (.getfield 26, 3) := by decide +kernel
theorem dX10_copyTrain_14 : decode cX10_copyTrain 14 = .ok (.invokevirtual 304, 3) := by decide +kernel
theorem dX10_copyTrain_17 : decode cX10_copyTrain 17 = .ok (.aload_n 0, 1) := by decide +kernel
theorem dX10_copyTrain_18 : decode cX10_copyTrain 18 = .ok (.getfield 26, 3) := by decide +kernel
theorem dX10_copyTrain_21 : decode cX10_copyTrain 21 = .ok (.getfield 154, 3) := by decide +kernel
theorem dX10_copyTrain_24 : decode cX10_copyTrain 24 = .ok (.iload_n 2, 1) := by decide +kernel
theorem dX10_copyTrain_25 : decode cX10_copyTrain 25 = .ok (.aaload, 1) := by decide +kernel
theorem dX10_copyTrain_26 : decode cX10_copyTrain 26 = .ok (.aload_n 0, 1) := by decide +kernel
theorem dX10_copyTrain_27 : decode cX10_copyTrain 27 = .ok (.getfield 26, 3) := by decide +kernel
theorem dX10_copyTrain_30 : decode cX10_copyTrain 30 = .ok (.getfield 154, 3) := by decide +kernel
theorem dX10_copyTrain_33 : decode cX10_copyTrain 33 = .ok (.iload_n 1, 1) := by decide +kernel
theorem dX10_copyTrain_34 : decode cX10_copyTrain 34 = .ok (.aaload, 1) := by decide +kernel
theorem dX10_copyTrain_35 : decode cX10_copyTrain 35 = .ok (.invokevirtual 356, 3) := by decide +kernel
theorem dX10_copyTrain_38 : decode cX10_copyTrain 38 = .ok (.aload_n 0, 1) := by decide +kernel
theorem dX10_copyTrain_39 : decode cX10_copyTrain 39 = .ok (.getfield 26, 3) := by decide +kernel
theorem dX10_copyTrain_42 : decode cX10_copyTrain 42 = .ok (.getfield 310, 3) := by decide +kernel
theorem dX10_copyTrain_45 : decode cX10_copyTrain 45 = .ok (.iload_n 2, 1) := by decide +kernel
theorem dX10_copyTrain_46 : decode cX10_copyTrain 46 = .ok (.iconst 0, 1) := by decide +kernel
theorem dX10_copyTrain_47 : decode cX10_copyTrain 47 = .ok (.iastore, 1) := by decide +kernel
theorem dX10_copyTrain_48 : decode cX10_copyTrain 48 = .ok (.aload_n 0, 1) := by decide +kernel
theorem dX10_copyTrain_49 : decode cX10_copyTrain 49 = .ok (.getfield 26, 3) := by decide +kernel
theorem dX10_copyTrain_52 : decode cX10_copyTrain 52 = .ok (.getfield 154, 3) := by decide +kernel
theorem dX10_copyTrain_55 : decode cX10_copyTrain 55 = .ok (.iload_n 2, 1) := by decide +kernel
theorem dX10_copyTrain_56 : decode cX10_copyTrain 56 = .ok (.aaload, 1) := by decide +kernel
theorem dX10_copyTrain_57 : decode cX10_copyTrain 57 = .ok (.getfield 158, 3) := by decide +kernel
theorem dX10_copyTrain_60 : decode cX10_copyTrain 60 = .ok (.ireturn, 1) := by decide +kernel
theorem dX10_backlash_0 : decode cX10_backlash 0 = .ok (.aload_n 0, 1) := by decide +kernel
theorem dX10_backlash_1 : decode cX10_backlash 1 = .ok (.iload_n 1, 1) := by decide +kernel
theorem dX10_backlash_2 : decode cX10_backlash 2 = .ok (.invokevirtual 140, 3) := by decide +kernel
theorem dX10_backlash_5 : decode cX10_backlash 5 = .ok (.aload_n 0, 1) := by decide +kernel
theorem dX10_backlash_6 : decode cX10_backlash 6 = .ok (.getfield 26, 3) := by decide +kernel
theorem dX10_backlash_9 : decode cX10_backlash 9 = .ok (.getfield 154, 3) := by decide +kernel
theorem dX10_backlash_12 : decode cX10_backlash 12 = .ok (.iload_n 1, 1) := by decide +kernel
theorem dX10_backlash_13 : decode cX10_backlash 13 = .ok (.aaload, 1) := by decide +kernel
theorem dX10_backlash_14 : decode cX10_backlash 14 = .ok (.aload_n 0, 1) := by decide +kernel
theorem dX10_backlash_15 : decode cX10_backlash 15 = .ok (.getfield 26, 3) := by decide +kernel
theorem dX10_backlash_18 : decode cX10_backlash 18 = .ok (.getfield 127, 3) := by decide +kernel
theorem dX10_backlash_21 : decode cX10_backlash 21 = .ok (.invokevirtual 337, 3) := by decide +kernel
theorem dX10_backlash_24 : decode cX10_backlash 24 = .ok (.ireturn, 1) := by decide +kernel
theorem dX10_lag_0 : decode cX10_lag 0 = .ok (.aload_n 0, 1) := by decide +kernel
theorem dX10_lag_1 : decode cX10_lag 1 = .ok (.iload_n 1, 1) := by decide +kernel
theorem dX10_lag_2 : decode cX10_lag 2 = .ok (.invokevirtual 140, 3) := by decide +kernel
theorem dX10_lag_5 : decode cX10_lag 5 = .ok (.aload_n 0, 1) := by decide +kernel
theorem dX10_lag_6 : decode cX10_lag 6 = .ok (.getfield 26, 3) := by decide +kernel
theorem dX10_lag_9 : decode cX10_lag 9 = .ok (.getfield 310, 3) := by decide +kernel
theorem dX10_lag_12 : decode cX10_lag 12 = .ok (.iload_n 1, 1) := by decide +kernel
theorem dX10_lag_13 : decode cX10_lag 13 = .ok (.iaload, 1) := by decide +kernel
theorem dX10_lag_14 : decode cX10_lag 14 = .ok (.ireturn, 1) := by decide +kernel
theorem dX10_shown_0 : decode cX10_shown 0 = .ok (.aload_n 0, 1) := by decide +kernel
theorem dX10_shown_1 : decode cX10_shown 1 = .ok (.iload_n 1, 1) := by decide +kernel
theorem dX10_shown_2 : decode cX10_shown 2 = .ok (.invokevirtual 140, 3) := by decide +kernel
theorem dX10_shown_5 : decode cX10_shown 5 = .ok (.aload_n 0, 1) := by decide +kernel
theorem dX10_shown_6 : decode cX10_shown 6 = .ok (.iload_n 1, 1) := by decide +kernel
theorem dX10_shown_7 : decode cX10_shown 7 = .ok (.aload_n 0, 1) := by decide +kernel
theorem dX10_shown_8 : decode cX10_shown 8 = .ok (.getfield 54, 3) := by decide +kernel
theorem dX10_shown_11 : decode cX10_shown 11 = .ok (.invokevirtual 181, 3) := by decide +kernel
theorem dX10_shown_14 : decode cX10_shown 14 = .ok (.aload_n 0, 1) := by decide +kernel
theorem dX10_shown_15 : decode cX10_shown 15 = .ok (.getfield 26, 3) := by decide +kernel
theorem dX10_shown_18 : decode cX10_shown 18 = .ok (.getfield 130, 3) := by decide +kernel
theorem dX10_shown_21 : decode cX10_shown 21 = .ok (.invokevirtual 334, 3) := by decide +kernel
theorem dX10_shown_24 : decode cX10_shown 24 = .ok (.lstore_n 2, 1) := by decide +kernel
theorem dX10_shown_25 : decode cX10_shown 25 = .ok (.lload_n 2, 1) := by decide +kernel
theorem dX10_shown_26 : decode cX10_shown 26 = .ok (.aload_n 0, 1) := by decide +kernel
theorem dX10_shown_27 : decode cX10_shown 27 = .ok (.getfield 26, 3) := by decide +kernel
theorem dX10_shown_30 : decode cX10_shown 30 = .ok (.getfield 310, 3) := by decide +kernel
theorem dX10_shown_33 : decode cX10_shown 33 = .ok (.iload_n 1, 1) := by decide +kernel
theorem dX10_shown_34 : decode cX10_shown 34 = .ok (.iaload, 1) := by decide +kernel
theorem dX10_shown_35 : decode cX10_shown 35 = .ok (.i2l, 1) := by decide +kernel
theorem dX10_shown_36 : decode cX10_shown 36 = .ok (.ladd, 1) := by decide +kernel
theorem dX10_shown_37 : decode cX10_shown 37 = .ok (.ldc_w 375, 3) := by decide +kernel
theorem dX10_shown_40 : decode cX10_shown 40 = .ok (.invokestatic 376, 3) := by decide +kernel
theorem dX10_shown_43 : decode cX10_shown 43 = .ok (.ireturn, 1) := by decide +kernel
theorem dX10_pointerOf_0 : decode cX10_pointerOf 0 = .ok (.aload_n 0, 1) := by decide +kernel
theorem dX10_pointerOf_1 : decode cX10_pointerOf 1 = .ok (.getfield 26, 3) := by decide +kernel
theorem dX10_pointerOf_4 : decode cX10_pointerOf 4 = .ok (.getfield 154, 3) := by decide +kernel
theorem dX10_pointerOf_7 : decode cX10_pointerOf 7 = .ok (.iload_n 1, 1) := by decide +kernel
theorem dX10_pointerOf_8 : decode cX10_pointerOf 8 = .ok (.aaload, 1) := by decide +kernel
theorem dX10_pointerOf_9 : decode cX10_pointerOf 9 = .ok (.astore_n 3, 1) := by decide +kernel
theorem dX10_pointerOf_10 : decode cX10_pointerOf 10 = .ok (.aload_n 2, 1) := by decide +kernel
theorem dX10_pointerOf_11 : decode cX10_pointerOf 11 = .ok (.aload_n 3, 1) := by decide +kernel
theorem dX10_pointerOf_12 : decode cX10_pointerOf 12 = .ok (.invokevirtual 402, 3) := by decide +kernel
theorem dX10_pointerOf_15 : decode cX10_pointerOf 15 = .ok (.aload_n 3, 1) := by decide +kernel
theorem dX10_pointerOf_16 : decode cX10_pointerOf 16 = .ok (.invokevirtual 406, 3) := by decide +kernel
theorem dX10_pointerOf_19 : decode cX10_pointerOf 19 = .ok (.invokevirtual 409, 3) := by decide +kernel
theorem dX10_pointerOf_22 : decode cX10_pointerOf 22 = .ok (.aload_n 0, 1) := by decide +kernel
theorem dX10_pointerOf_23 : decode cX10_pointerOf 23 = .ok (.getfield 19, 3) := by decide +kernel
theorem dX10_pointerOf_26 : decode cX10_pointerOf 26 = .ok (.getfield 151, 3) := by decide +kernel
theorem dX10_pointerOf_29 : decode cX10_pointerOf 29 = .ok (.iload_n 1, 1) := by decide +kernel
theorem dX10_pointerOf_30 : decode cX10_pointerOf 30 = .ok (.iaload, 1) := by decide +kernel
theorem dX10_pointerOf_31 : decode cX10_pointerOf 31 = .ok (.istore 4, 2) := by decide +kernel
theorem dX10_pointerOf_33 : decode cX10_pointerOf 33 = .ok (.iload 4, 2) := by decide +kernel
theorem dX10_pointerOf_35 : decode cX10_pointerOf 35 = .ok (.ifCond .lt 29, 3) := by decide +kernel
theorem dX10_pointerOf_38 : decode cX10_pointerOf 38 = .ok (.aload_n 0, 1) := by decide +kernel
theorem dX10_pointerOf_39 : decode cX10_pointerOf 39 = .ok (.getfield 26, 3) := by decide +kernel
theorem dX10_pointerOf_42 : decode cX10_pointerOf 42 = .ok (.getfield 154, 3) := by decide +kernel
theorem dX10_pointerOf_45 : decode cX10_pointerOf 45 = .ok (.iload 4, 2) := by decide +kernel
theorem dX10_pointerOf_47 : decode cX10_pointerOf 47 = .ok (.aaload, 1) := by decide +kernel
theorem dX10_pointerOf_48 : decode cX10_pointerOf 48 = .ok (.astore 5, 2) := by decide +kernel
theorem dX10_pointerOf_50 : decode cX10_pointerOf 50 = .ok (.aload_n 2, 1) := by decide +kernel
theorem dX10_pointerOf_51 : decode cX10_pointerOf 51 = .ok (.aload 5, 2) := by decide +kernel
theorem dX10_pointerOf_53 : decode cX10_pointerOf 53 = .ok (.invokevirtual 402, 3) := by decide +kernel
theorem dX10_pointerOf_56 : decode cX10_pointerOf 56 = .ok (.aload 5, 2) := by decide +kernel
theorem dX10_pointerOf_58 : decode cX10_pointerOf 58 = .ok (.invokevirtual 406, 3) := by decide +kernel
theorem dX10_pointerOf_61 : decode cX10_pointerOf 61 = .ok (.invokevirtual 285, 3) := by decide +kernel
theorem dX10_pointerOf_64 : decode cX10_pointerOf 64 = .ok (.aload_n 2, 1) := by decide +kernel
theorem dX10_pointerOf_65 : decode cX10_pointerOf 65 = .ok (.areturn, 1) := by decide +kernel
theorem dX10_trueRateOf_0 : decode cX10_trueRateOf 0 = .ok (.aload_n 2, 1) := by decide +kernel
theorem dX10_trueRateOf_1 : decode cX10_trueRateOf 1 = .ok (.aload_n 0, 1) := by decide +kernel
theorem dX10_trueRateOf_2 : decode cX10_trueRateOf 2 = .ok (.getfield 19, 3) := by decide +kernel
theorem dX10_trueRateOf_5 : decode cX10_trueRateOf 5 = .ok (.iload_n 1, 1) := by decide +kernel
theorem dX10_trueRateOf_6 : decode cX10_trueRateOf 6 = .ok (.invokevirtual 412, 3) := by decide +kernel
theorem dX10_trueRateOf_9 : decode cX10_trueRateOf 9 = .ok (.aload_n 0, 1) := by decide +kernel
theorem dX10_trueRateOf_10 : decode cX10_trueRateOf 10 = .ok (.getfield 19, 3) := by decide +kernel
theorem dX10_trueRateOf_13 : decode cX10_trueRateOf 13 = .ok (.getfield 143, 3) := by decide +kernel
theorem dX10_trueRateOf_16 : decode cX10_trueRateOf 16 = .ok (.iload_n 1, 1) := by decide +kernel
theorem dX10_trueRateOf_17 : decode cX10_trueRateOf 17 = .ok (.iaload, 1) := by decide +kernel
theorem dX10_trueRateOf_18 : decode cX10_trueRateOf 18 = .ok (.i2l, 1) := by decide +kernel
theorem dX10_trueRateOf_19 : decode cX10_trueRateOf 19 = .ok (.invokevirtual 409, 3) := by decide +kernel
theorem dX10_trueRateOf_22 : decode cX10_trueRateOf 22 = .ok (.aload_n 2, 1) := by decide +kernel
theorem dX10_trueRateOf_23 : decode cX10_trueRateOf 23 = .ok (.areturn, 1) := by decide +kernel
theorem dX10_driftOf_0 : decode cX10_driftOf 0 = .ok (.aload_n 0, 1) := by decide +kernel
theorem dX10_driftOf_1 : decode cX10_driftOf 1 = .ok (.iload_n 1, 1) := by decide +kernel
theorem dX10_driftOf_2 : decode cX10_driftOf 2 = .ok (.aload_n 0, 1) := by decide +kernel
theorem dX10_driftOf_3 : decode cX10_driftOf 3 = .ok (.getfield 61, 3) := by decide +kernel
theorem dX10_driftOf_6 : decode cX10_driftOf 6 = .ok (.invokevirtual 181, 3) := by decide +kernel
theorem dX10_driftOf_9 : decode cX10_driftOf 9 = .ok (.pop, 1) := by decide +kernel
theorem dX10_driftOf_10 : decode cX10_driftOf 10 = .ok (.aload_n 0, 1) := by decide +kernel
theorem dX10_driftOf_11 : decode cX10_driftOf 11 = .ok (.getfield 61, 3) := by decide +kernel
theorem dX10_driftOf_14 : decode cX10_driftOf 14 = .ok (.aload_n 0, 1) := by decide +kernel
theorem dX10_driftOf_15 : decode cX10_driftOf 15 = .ok (.getfield 19, 3) := by decide +kernel
theorem dX10_driftOf_18 : decode cX10_driftOf 18 = .ok (.iload_n 1, 1) := by decide +kernel
theorem dX10_driftOf_19 : decode cX10_driftOf 19 = .ok (.invokevirtual 412, 3) := by decide +kernel
theorem dX10_driftOf_22 : decode cX10_driftOf 22 = .ok (.lneg, 1) := by decide +kernel
theorem dX10_driftOf_23 : decode cX10_driftOf 23 = .ok (.aload_n 0, 1) := by decide +kernel
theorem dX10_driftOf_24 : decode cX10_driftOf 24 = .ok (.getfield 19, 3) := by decide +kernel
theorem dX10_driftOf_27 : decode cX10_driftOf 27 = .ok (.getfield 143, 3) := by decide +kernel
theorem dX10_driftOf_30 : decode cX10_driftOf 30 = .ok (.iload_n 1, 1) := by decide +kernel
theorem dX10_driftOf_31 : decode cX10_driftOf 31 = .ok (.iaload, 1) := by decide +kernel
theorem dX10_driftOf_32 : decode cX10_driftOf 32 = .ok (.i2l, 1) := by decide +kernel
theorem dX10_driftOf_33 : decode cX10_driftOf 33 = .ok (.invokevirtual 285, 3) := by decide +kernel
theorem dX10_driftOf_36 : decode cX10_driftOf 36 = .ok (.aload_n 0, 1) := by decide +kernel
theorem dX10_driftOf_37 : decode cX10_driftOf 37 = .ok (.getfield 61, 3) := by decide +kernel
theorem dX10_driftOf_40 : decode cX10_driftOf 40 = .ok (.areturn, 1) := by decide +kernel
theorem dX10_wayRound_0 : decode cX10_wayRound 0 = .ok (.iload_n 0, 1) := by decide +kernel
theorem dX10_wayRound_1 : decode cX10_wayRound 1 = .ok (.iload_n 1, 1) := by decide +kernel
theorem dX10_wayRound_2 : decode cX10_wayRound 2 = .ok (.isub, 1) := by decide +kernel
theorem dX10_wayRound_3 : decode cX10_wayRound 3 = .ok (.invokestatic 415, 3) := by decide +kernel
theorem dX10_wayRound_6 : decode cX10_wayRound 6 = .ok (.istore_n 2, 1) := by decide +kernel
theorem dX10_wayRound_7 : decode cX10_wayRound 7 = .ok (.iload_n 2, 1) := by decide +kernel
theorem dX10_wayRound_8 : decode cX10_wayRound 8 = .ok (.ldc_w 375, 3) := by decide +kernel
theorem dX10_wayRound_11 : decode cX10_wayRound 11 = .ok (.iload_n 2, 1) := by decide +kernel
theorem dX10_wayRound_12 : decode cX10_wayRound 12 = .ok (.isub, 1) := by decide +kernel
theorem dX10_wayRound_13 : decode cX10_wayRound 13 = .ok (.invokestatic 417, 3) := by decide +kernel
theorem dX10_wayRound_16 : decode cX10_wayRound 16 = .ok (.ireturn, 1) := by decide +kernel
theorem dX10_teethOfAll_0 : decode cX10_teethOfAll 0 = .ok (.iconst 0, 1) := by decide +kernel
theorem dX10_teethOfAll_1 : decode cX10_teethOfAll 1 = .ok (.istore_n 1, 1) := by decide +kernel
theorem dX10_teethOfAll_2 : decode cX10_teethOfAll 2 = .ok (.iconst 0, 1) := by decide +kernel
theorem dX10_teethOfAll_3 : decode cX10_teethOfAll 3 = .ok (.istore_n 2, 1) := by decide +kernel
theorem dX10_teethOfAll_4 : decode cX10_teethOfAll 4 = .ok (.iload_n 2, 1) := by decide +kernel
theorem dX10_teethOfAll_5 : decode cX10_teethOfAll 5 = .ok (.aload_n 0, 1) := by decide +kernel
theorem dX10_teethOfAll_6 : decode cX10_teethOfAll 6 = .ok (.getfield 19, 3) := by decide +kernel
theorem dX10_teethOfAll_9 : decode cX10_teethOfAll 9 = .ok (.getfield 108, 3) := by decide +kernel
theorem dX10_teethOfAll_12 : decode cX10_teethOfAll 12 = .ok (.if_icmp .ge 24, 3) := by decide +kernel
theorem dX10_teethOfAll_15 : decode cX10_teethOfAll 15 = .ok (.iload_n 1, 1) := by decide +kernel
theorem dX10_teethOfAll_16 : decode cX10_teethOfAll 16 = .ok (.aload_n 0, 1) := by decide +kernel
theorem dX10_teethOfAll_17 : decode cX10_teethOfAll 17 = .ok (.getfield 26, 3) := by decide +kernel
theorem dX10_teethOfAll_20 : decode cX10_teethOfAll 20 = .ok (.getfield 154, 3) := by decide +kernel
theorem dX10_teethOfAll_23 : decode cX10_teethOfAll 23 = .ok (.iload_n 2, 1) := by decide +kernel
theorem dX10_teethOfAll_24 : decode cX10_teethOfAll 24 = .ok (.aaload, 1) := by decide +kernel
theorem dX10_teethOfAll_25 : decode cX10_teethOfAll 25 = .ok (.invokevirtual 159, 3) := by decide +kernel
theorem dX10_teethOfAll_28 : decode cX10_teethOfAll 28 = .ok (.iadd, 1) := by decide +kernel
theorem dX10_teethOfAll_29 : decode cX10_teethOfAll 29 = .ok (.istore_n 1, 1) := by decide +kernel
theorem dX10_teethOfAll_30 : decode cX10_teethOfAll 30 = .ok (.iinc 2 1, 3) := by decide +kernel
theorem dX10_teethOfAll_33 : decode cX10_teethOfAll 33 = .ok (.goto (-29), 3) := by decide +kernel
theorem dX10_teethOfAll_36 : decode cX10_teethOfAll 36 = .ok (.iload_n 1, 1) := by decide +kernel
theorem dX10_teethOfAll_37 : decode cX10_teethOfAll 37 = .ok (.ireturn, 1) := by decide +kernel
theorem dX10_needBody_0 : decode cX10_needBody 0 = .ok (.iload_n 1, 1) := by decide +kernel
theorem dX10_needBody_1 : decode cX10_needBody 1 = .ok (.ifCond .lt 14, 3) := by decide +kernel
theorem dX10_needBody_4 : decode cX10_needBody 4 = .ok (.iload_n 1, 1) := by decide +kernel
theorem dX10_needBody_5 : decode cX10_needBody 5 = .ok (.aload_n 0, 1) := by decide +kernel
theorem dX10_needBody_6 : decode cX10_needBody 6 = .ok (.getfield 19, 3) := by decide +kernel
theorem dX10_needBody_9 : decode cX10_needBody 9 = .ok (.getfield 108, 3) := by decide +kernel
theorem dX10_needBody_12 : decode cX10_needBody 12 = .ok (.if_icmp .lt 14, 3) := by decide +kernel
theorem dX10_needBody_15 : decode cX10_needBody 15 = .ok (.new 423, 3) := by decide +kernel
theorem dX10_needBody_18 : decode cX10_needBody 18 = .ok (.dup, 1) := by decide +kernel
theorem dX10_needBody_19 : decode cX10_needBody 19 = .ok (.ldc_w 425, 3) := by decide +kernel
theorem dX10_needBody_22 : decode cX10_needBody 22 = .ok (.invokespecial 427, 3) := by decide +kernel
theorem dX10_needBody_25 : decode cX10_needBody 25 = .ok (.athrow, 1) := by decide +kernel
theorem dX10_needBody_26 : decode cX10_needBody 26 = .ok (.return_, 1) := by decide +kernel
theorem dX10_needTwoBodies_0 : decode cX10_needTwoBodies 0 = .ok (.aload_n 0, 1) := by decide +kernel
theorem dX10_needTwoBodies_1 : decode cX10_needTwoBodies 1 = .ok (.iload_n 1, 1) := by decide +kernel
theorem dX10_needTwoBodies_2 : decode cX10_needTwoBodies 2 = .ok (.invokevirtual 140, 3) := by decide +kernel
theorem dX10_needTwoBodies_5 : decode cX10_needTwoBodies 5 = .ok (.aload_n 0, 1) := by decide +kernel
theorem dX10_needTwoBodies_6 : decode cX10_needTwoBodies 6 = .ok (.iload_n 2, 1) := by decide +kernel
theorem dX10_needTwoBodies_7 : decode cX10_needTwoBodies 7 = .ok (.invokevirtual 140, 3) := by decide +kernel
theorem dX10_needTwoBodies_10 : decode cX10_needTwoBodies 10 = .ok (.iload_n 1, 1) := by decide +kernel
theorem dX10_needTwoBodies_11 : decode cX10_needTwoBodies 11 = .ok (.iload_n 2, 1) := by decide +kernel
theorem dX10_needTwoBodies_12 : decode cX10_needTwoBodies 12 = .ok (.if_icmp .ne 14, 3) := by decide +kernel
theorem dX10_needTwoBodies_15 : decode cX10_needTwoBodies 15 = .ok (.new 245, 3) := by decide +kernel
theorem dX10_needTwoBodies_18 : decode cX10_needTwoBodies 18 = .ok (.dup, 1) := by decide +kernel
theorem dX10_needTwoBodies_19 : decode cX10_needTwoBodies 19 = .ok (.ldc_w 428, 3) := by decide +kernel
theorem dX10_needTwoBodies_22 : decode cX10_needTwoBodies 22 = .ok (.invokespecial 249, 3) := by decide +kernel
theorem dX10_needTwoBodies_25 : decode cX10_needTwoBodies 25 = .ok (.athrow, 1) := by decide +kernel
theorem dX10_needTwoBodies_26 : decode cX10_needTwoBodies 26 = .ok (.return_, 1) := by decide +kernel
theorem dX10_needWithin_0 : decode cX10_needWithin 0 = .ok (.iload_n 0, 1) := by decide +kernel
theorem dX10_needWithin_1 : decode cX10_needWithin 1 = .ok (.iload_n 1, 1) := by decide +kernel
theorem dX10_needWithin_2 : decode cX10_needWithin 2 = .ok (.if_icmp .lt 8, 3) := by decide +kernel
theorem dX10_needWithin_5 : decode cX10_needWithin 5 = .ok (.iload_n 0, 1) := by decide +kernel
theorem dX10_needWithin_6 : decode cX10_needWithin 6 = .ok (.iload_n 2, 1) := by decide +kernel
theorem dX10_needWithin_7 : decode cX10_needWithin 7 = .ok (.if_icmp .le 14, 3) := by decide +kernel
theorem dX10_needWithin_10 : decode cX10_needWithin 10 = .ok (.new 245, 3) := by decide +kernel
theorem dX10_needWithin_13 : decode cX10_needWithin 13 = .ok (.dup, 1) := by decide +kernel
theorem dX10_needWithin_14 : decode cX10_needWithin 14 = .ok (.ldc_w 430, 3) := by decide +kernel
theorem dX10_needWithin_17 : decode cX10_needWithin 17 = .ok (.invokespecial 249, 3) := by decide +kernel
theorem dX10_needWithin_20 : decode cX10_needWithin 20 = .ok (.athrow, 1) := by decide +kernel
theorem dX10_needWithin_21 : decode cX10_needWithin 21 = .ok (.return_, 1) := by decide +kernel
theorem dX11_init_0 : decode cX11_init 0 = .ok (.aload_n 0, 1) := by decide +kernel
theorem dX11_init_1 : decode cX11_init 1 = .ok (.invokespecial 1, 3) := by decide +kernel
theorem dX11_init_4 : decode cX11_init 4 = .ok (.aload_n 0, 1) := by decide +kernel
theorem dX11_init_5 : decode cX11_init 5 = .ok (.new 7, 3) := by decide +kernel
theorem dX11_init_8 : decode cX11_init 8 = .ok (.dup, 1) := by decide +kernel
theorem dX11_init_9 : decode cX11_init 9 = .ok (.invokespecial 9, 3) := by decide +kernel
theorem dX11_init_12 : decode cX11_init 12 = .ok (.putfield 10, 3) := by decide +kernel
theorem dX11_init_15 : decode cX11_init 15 = .ok (.return_, 1) := by decide +kernel
theorem dX11_own_0 : decode cX11_own 0 = .ok (.aload_n 0, 1) := by decide +kernel
theorem dX11_own_1 : decode cX11_own 1 = .ok (.getfield 10, 3) := by decide +kernel
theorem dX11_own_4 : decode cX11_own 4 = .ok (.invokeinterface 16 1, 5) := by decide +kernel
theorem dX11_own_9 : decode cX11_own 9 = .ok (.ifCond .eq 13, 3) := by decide +kernel
theorem dX11_own_12 : decode cX11_own 12 = .ok (.new 22, 3) := by decide +kernel
theorem dX11_own_15 : decode cX11_own 15 = .ok (.dup, 1) := by decide +kernel
theorem dX11_own_16 : decode cX11_own 16 = .ok (.lconst 0, 1) := by decide +kernel
theorem dX11_own_17 : decode cX11_own 17 = .ok (.lconst 1, 1) := by decide +kernel
theorem dX11_own_18 : decode cX11_own 18 = .ok (.invokespecial 24, 3) := by decide +kernel
theorem dX11_own_21 : decode cX11_own 21 = .ok (.areturn, 1) := by decide +kernel
theorem dX11_own_22 : decode cX11_own 22 = .ok (.new 22, 3) := by decide +kernel
theorem dX11_own_25 : decode cX11_own 25 = .ok (.dup, 1) := by decide +kernel
theorem dX11_own_26 : decode cX11_own 26 = .ok (.lconst 1, 1) := by decide +kernel
theorem dX11_own_27 : decode cX11_own 27 = .ok (.lconst 1, 1) := by decide +kernel
theorem dX11_own_28 : decode cX11_own 28 = .ok (.invokespecial 24, 3) := by decide +kernel
theorem dX11_own_31 : decode cX11_own 31 = .ok (.astore_n 1, 1) := by decide +kernel
theorem dX11_own_32 : decode cX11_own 32 = .ok (.aload_n 0, 1) := by decide +kernel
theorem dX11_own_33 : decode cX11_own 33 = .ok (.getfield 10, 3) := by decide +kernel
theorem dX11_own_36 : decode cX11_own 36 = .ok (.invokeinterface 27 1, 5) := by decide +kernel
theorem dX11_own_41 : decode cX11_own 41 = .ok (.astore_n 2, 1) := by decide +kernel
theorem dX11_own_42 : decode cX11_own 42 = .ok (.aload_n 2, 1) := by decide +kernel
theorem dX11_own_43 : decode cX11_own 43 = .ok (.invokeinterface 31 1, 5) := by decide +kernel
theorem dX11_own_48 : decode cX11_own 48 = .ok (.ifCond .eq 61, 3) := by decide +kernel
theorem dX11_own_51 : decode cX11_own 51 = .ok (.aload_n 2, 1) := by decide +kernel
theorem dX11_own_52 : decode cX11_own 52 = .ok (.invokeinterface 36 1, 5) := by decide +kernel
theorem dX11_own_57 : decode cX11_own 57 = .ok (.checkcast 40, 3) := by decide +kernel
theorem dX11_own_60 : decode cX11_own 60 = .ok (.astore_n 3, 1) := by decide +kernel
theorem dX11_own_61 : decode cX11_own 61 = .ok (.aload_n 3, 1) := by decide +kernel
theorem dX11_own_62 : decode cX11_own 62 = .ok (.iconst 0, 1) := by decide +kernel
theorem dX11_own_63 : decode cX11_own 63 = .ok (.iaload, 1) := by decide +kernel
theorem dX11_own_64 : decode cX11_own 64 = .ok (.iconst 2, 1) := by decide +kernel
theorem dX11_own_65 : decode cX11_own 65 = .ok (.if_icmp .ne 14, 3) := by decide +kernel
theorem dX11_own_68 : decode cX11_own 68 = .ok (.aload_n 1, 1) := by decide +kernel
theorem dX11_own_69 : decode cX11_own 69 = .ok (.ldc2_w 42, 3) := by decide +kernel
theorem dX11_own_72 : decode cX11_own 72 = .ok (.lconst 1, 1) := by decide +kernel
theorem dX11_own_73 : decode cX11_own 73 = .ok (.invokevirtual 44, 3) := by decide +kernel
theorem dX11_own_76 : decode cX11_own 76 = .ok (.goto 29, 3) := by decide +kernel
theorem dX11_own_79 : decode cX11_own 79 = .ok (.aload_n 1, 1) := by decide +kernel
theorem dX11_own_80 : decode cX11_own 80 = .ok (.aload_n 3, 1) := by decide +kernel
theorem dX11_own_81 : decode cX11_own 81 = .ok (.iconst 0, 1) := by decide +kernel
theorem dX11_own_82 : decode cX11_own 82 = .ok (.iaload, 1) := by decide +kernel
theorem dX11_own_83 : decode cX11_own 83 = .ok (.ifCond .ne 11, 3) := by decide +kernel
theorem dX11_own_86 : decode cX11_own 86 = .ok (.aload_n 3, 1) := by decide +kernel
theorem dX11_own_87 : decode cX11_own 87 = .ok (.iconst 1, 1) := by decide +kernel
theorem dX11_own_88 : decode cX11_own 88 = .ok (.iaload, 1) := by decide +kernel
theorem dX11_own_89 : decode cX11_own 89 = .ok (.ineg, 1) := by decide +kernel
theorem dX11_own_90 : decode cX11_own 90 = .ok (.i2l, 1) := by decide +kernel
theorem dX11_own_91 : decode cX11_own 91 = .ok (.goto 7, 3) := by decide +kernel
theorem dX11_own_94 : decode cX11_own 94 = .ok (.aload_n 3, 1) := by decide +kernel
theorem dX11_own_95 : decode cX11_own 95 = .ok (.iconst 1, 1) := by decide +kernel
theorem dX11_own_96 : decode cX11_own 96 = .ok (.iaload, 1) := by decide +kernel
theorem dX11_own_97 : decode cX11_own 97 = .ok (.i2l, 1) := by decide +kernel
theorem dX11_own_98 : decode cX11_own 98 = .ok (.aload_n 3, 1) := by decide +kernel
theorem dX11_own_99 : decode cX11_own 99 = .ok (.iconst 2, 1) := by decide +kernel
theorem dX11_own_100 : decode cX11_own 100 = .ok (.iaload, 1) := by decide +kernel
theorem dX11_own_101 : decode cX11_own 101 = .ok (.i2l, 1) := by decide +kernel
theorem dX11_own_102 : decode cX11_own 102 = .ok (.invokevirtual 44, 3) := by decide +kernel
theorem dX11_own_105 : decode cX11_own 105 = .ok (.astore_n 1, 1) := by decide +kernel
theorem dX11_own_106 : decode cX11_own 106 = .ok (.goto (-64), 3) := by decide +kernel
theorem dX11_own_109 : decode cX11_own 109 = .ok (.aload_n 1, 1) := by decide +kernel
theorem dX11_own_110 : decode cX11_own 110 = .ok (.areturn, 1) := by decide +kernel
theorem dX11_ratio_0 : decode cX11_ratio 0 = .ok (.aload_n 0, 1) := by decide +kernel
theorem dX11_ratio_1 : decode cX11_ratio 1 = .ok (.getfield 48, 3) := by decide +kernel
theorem dX11_ratio_4 : decode cX11_ratio 4 = .ok (.ifnonnull 10, 3) := by decide +kernel
theorem dX11_ratio_7 : decode cX11_ratio 7 = .ok (.aload_n 0, 1) := by decide +kernel
theorem dX11_ratio_8 : decode cX11_ratio 8 = .ok (.invokevirtual 52, 3) := by decide +kernel
theorem dX11_ratio_11 : decode cX11_ratio 11 = .ok (.goto 18, 3) := by decide +kernel
theorem dX11_ratio_14 : decode cX11_ratio 14 = .ok (.aload_n 0, 1) := by decide +kernel
theorem dX11_ratio_15 : decode cX11_ratio 15 = .ok (.invokevirtual 52, 3) := by decide +kernel
theorem dX11_ratio_18 : decode cX11_ratio 18 = .ok (.aload_n 0, 1) := by decide +kernel
theorem dX11_ratio_19 : decode cX11_ratio 19 = .ok (.getfield 48, 3) := by decide +kernel
theorem dX11_ratio_22 : decode cX11_ratio 22 = .ok (.invokevirtual 52, 3) := by decide +kernel
theorem dX11_ratio_25 : decode cX11_ratio 25 = .ok (.iconst 1, 1) := by decide +kernel
theorem dX11_ratio_26 : decode cX11_ratio 26 = .ok (.invokevirtual 56, 3) := by decide +kernel
theorem dX11_ratio_29 : decode cX11_ratio 29 = .ok (.areturn, 1) := by decide +kernel
theorem dX11_due_0 : decode cX11_due 0 = .ok (.new 22, 3) := by decide +kernel
theorem dX11_due_3 : decode cX11_due 3 = .ok (.dup, 1) := by decide +kernel
theorem dX11_due_4 : decode cX11_due 4 = .ok (.aload_n 0, 1) := by decide +kernel
theorem dX11_due_5 : decode cX11_due 5 = .ok (.getfield 60, 3) := by decide +kernel
theorem dX11_due_8 : decode cX11_due 8 = .ok (.ifCond .eq 9, 3) := by decide +kernel
theorem dX11_due_11 : decode cX11_due 11 = .ok (.ldc2_w 64, 3) := by decide +kernel
theorem dX11_due_14 : decode cX11_due 14 = .ok (.goto 6, 3) := by decide +kernel
theorem dX11_due_17 : decode cX11_due 17 = .ok (.ldc2_w 66, 3) := by decide +kernel
theorem dX11_due_20 : decode cX11_due 20 = .ok (.aload_n 0, 1) := by decide +kernel
theorem dX11_due_21 : decode cX11_due 21 = .ok (.getfield 68, 3) := by decide +kernel
theorem dX11_due_24 : decode cX11_due 24 = .ok (.i2l, 1) := by decide +kernel
theorem dX11_due_25 : decode cX11_due 25 = .ok (.invokespecial 24, 3) := by decide +kernel
theorem dX11_due_28 : decode cX11_due 28 = .ok (.areturn, 1) := by decide +kernel
theorem dX11_gears_0 : decode cX11_gears 0 = .ok (.iconst 0, 1) := by decide +kernel
theorem dX11_gears_1 : decode cX11_gears 1 = .ok (.istore_n 1, 1) := by decide +kernel
theorem dX11_gears_2 : decode cX11_gears 2 = .ok (.aload_n 0, 1) := by decide +kernel
theorem dX11_gears_3 : decode cX11_gears 3 = .ok (.getfield 10, 3) := by decide +kernel
theorem dX11_gears_6 : decode cX11_gears 6 = .ok (.invokeinterface 27 1, 5) := by decide +kernel
theorem dX11_gears_11 : decode cX11_gears 11 = .ok (.astore_n 2, 1) := by decide +kernel
theorem dX11_gears_12 : decode cX11_gears 12 = .ok (.aload_n 2, 1) := by decide +kernel
theorem dX11_gears_13 : decode cX11_gears 13 = .ok (.invokeinterface 31 1, 5) := by decide +kernel
theorem dX11_gears_18 : decode cX11_gears 18 = .ok (.ifCond .eq 31, 3) := by decide +kernel
theorem dX11_gears_21 : decode cX11_gears 21 = .ok (.aload_n 2, 1) := by decide +kernel
theorem dX11_gears_22 : decode cX11_gears 22 = .ok (.invokeinterface 36 1, 5) := by decide +kernel
theorem dX11_gears_27 : decode cX11_gears 27 = .ok (.checkcast 40, 3) := by decide +kernel
theorem dX11_gears_30 : decode cX11_gears 30 = .ok (.astore_n 3, 1) := by decide +kernel
theorem dX11_gears_31 : decode cX11_gears 31 = .ok (.iload_n 1, 1) := by decide +kernel
theorem dX11_gears_32 : decode cX11_gears 32 = .ok (.aload_n 3, 1) := by decide +kernel
theorem dX11_gears_33 : decode cX11_gears 33 = .ok (.iconst 0, 1) := by decide +kernel
theorem dX11_gears_34 : decode cX11_gears 34 = .ok (.iaload, 1) := by decide +kernel
theorem dX11_gears_35 : decode cX11_gears 35 = .ok (.iconst 2, 1) := by decide +kernel
theorem dX11_gears_36 : decode cX11_gears 36 = .ok (.if_icmp .ge 7, 3) := by decide +kernel
theorem dX11_gears_39 : decode cX11_gears 39 = .ok (.iconst 1, 1) := by decide +kernel
theorem dX11_gears_40 : decode cX11_gears 40 = .ok (.goto 4, 3) := by decide +kernel
theorem dX11_gears_43 : decode cX11_gears 43 = .ok (.iconst 0, 1) := by decide +kernel
theorem dX11_gears_44 : decode cX11_gears 44 = .ok (.iadd, 1) := by decide +kernel
theorem dX11_gears_45 : decode cX11_gears 45 = .ok (.istore_n 1, 1) := by decide +kernel
theorem dX11_gears_46 : decode cX11_gears 46 = .ok (.goto (-34), 3) := by decide +kernel
theorem dX11_gears_49 : decode cX11_gears 49 = .ok (.iload_n 1, 1) := by decide +kernel
theorem dX11_gears_50 : decode cX11_gears 50 = .ok (.ireturn, 1) := by decide +kernel
theorem dX11_backlash_0 : decode cX11_backlash 0 = .ok (.new 22, 3) := by decide +kernel
theorem dX11_backlash_3 : decode cX11_backlash 3 = .ok (.dup, 1) := by decide +kernel
theorem dX11_backlash_4 : decode cX11_backlash 4 = .ok (.lconst 0, 1) := by decide +kernel
theorem dX11_backlash_5 : decode cX11_backlash 5 = .ok (.lconst 1, 1) := by decide +kernel
theorem dX11_backlash_6 : decode cX11_backlash 6 = .ok (.invokespecial 24, 3) := by decide +kernel
theorem dX11_backlash_9 : decode cX11_backlash 9 = .ok (.astore_n 2, 1) := by decide +kernel
theorem dX11_backlash_10 : decode cX11_backlash 10 = .ok (.iconst 0, 1) := by decide +kernel
theorem dX11_backlash_11 : decode cX11_backlash 11 = .ok (.istore_n 3, 1) := by decide +kernel
theorem dX11_backlash_12 : decode cX11_backlash 12 = .ok (.iload_n 3, 1) := by decide +kernel
theorem dX11_backlash_13 : decode cX11_backlash 13 = .ok (.aload_n 0, 1) := by decide +kernel
theorem dX11_backlash_14 : decode cX11_backlash 14 = .ok (.getfield 10, 3) := by decide +kernel
theorem dX11_backlash_17 : decode cX11_backlash 17 = .ok (.invokeinterface 72 1, 5) := by decide +kernel
theorem dX11_backlash_22 : decode cX11_backlash 22 = .ok (.if_icmp .ge 139, 3) := by decide +kernel
theorem dX11_backlash_25 : decode cX11_backlash 25 = .ok (.new 22, 3) := by decide +kernel
theorem dX11_backlash_28 : decode cX11_backlash 28 = .ok (.dup, 1) := by decide +kernel
theorem dX11_backlash_29 : decode cX11_backlash 29 = .ok (.aload_n 0, 1) := by decide +kernel
theorem dX11_backlash_30 : decode cX11_backlash 30 = .ok (.getfield 10, 3) := by decide +kernel
theorem dX11_backlash_33 : decode cX11_backlash 33 = .ok (.iload_n 3, 1) := by decide +kernel
theorem dX11_backlash_34 : decode cX11_backlash 34 = .ok (.invokeinterface 76 2, 5) := by decide +kernel
theorem dX11_backlash_39 : decode cX11_backlash 39 = .ok (.checkcast 40, 3) := by decide +kernel
theorem dX11_backlash_42 : decode cX11_backlash 42 = .ok (.iconst 0, 1) := by decide +kernel
theorem dX11_backlash_43 : decode cX11_backlash 43 = .ok (.iaload, 1) := by decide +kernel
theorem dX11_backlash_44 : decode cX11_backlash 44 = .ok (.iconst 2, 1) := by decide +kernel
theorem dX11_backlash_45 : decode cX11_backlash 45 = .ok (.if_icmp .ne 9, 3) := by decide +kernel
theorem dX11_backlash_48 : decode cX11_backlash 48 = .ok (.ldc2_w 80, 3) := by decide +kernel
theorem dX11_backlash_51 : decode cX11_backlash 51 = .ok (.goto 4, 3) := by decide +kernel
theorem dX11_backlash_54 : decode cX11_backlash 54 = .ok (.lconst 1, 1) := by decide +kernel
theorem dX11_backlash_55 : decode cX11_backlash 55 = .ok (.lconst 1, 1) := by decide +kernel
theorem dX11_backlash_56 : decode cX11_backlash 56 = .ok (.invokespecial 24, 3) := by decide +kernel
theorem dX11_backlash_59 : decode cX11_backlash 59 = .ok (.astore 4, 2) := by decide +kernel
theorem dX11_backlash_61 : decode cX11_backlash 61 = .ok (.iload_n 3, 1) := by decide +kernel
theorem dX11_backlash_62 : decode cX11_backlash 62 = .ok (.iconst 1, 1) := by decide +kernel
theorem dX11_backlash_63 : decode cX11_backlash 63 = .ok (.iadd, 1) := by decide +kernel
theorem dX11_backlash_64 : decode cX11_backlash 64 = .ok (.istore 5, 2) := by decide +kernel
theorem dX11_backlash_66 : decode cX11_backlash 66 = .ok (.iload 5, 2) := by decide +kernel
theorem dX11_backlash_68 : decode cX11_backlash 68 = .ok (.aload_n 0, 1) := by decide +kernel
theorem dX11_backlash_69 : decode cX11_backlash 69 = .ok (.getfield 10, 3) := by decide +kernel
theorem dX11_backlash_72 : decode cX11_backlash 72 = .ok (.invokeinterface 72 1, 5) := by decide +kernel
theorem dX11_backlash_77 : decode cX11_backlash 77 = .ok (.if_icmp .ge 70, 3) := by decide +kernel
theorem dX11_backlash_80 : decode cX11_backlash 80 = .ok (.aload_n 0, 1) := by decide +kernel
theorem dX11_backlash_81 : decode cX11_backlash 81 = .ok (.getfield 10, 3) := by decide +kernel
theorem dX11_backlash_84 : decode cX11_backlash 84 = .ok (.iload 5, 2) := by decide +kernel
theorem dX11_backlash_86 : decode cX11_backlash 86 = .ok (.invokeinterface 76 2, 5) := by decide +kernel
theorem dX11_backlash_91 : decode cX11_backlash 91 = .ok (.checkcast 40, 3) := by decide +kernel
theorem dX11_backlash_94 : decode cX11_backlash 94 = .ok (.iconst 0, 1) := by decide +kernel
theorem dX11_backlash_95 : decode cX11_backlash 95 = .ok (.iaload, 1) := by decide +kernel
theorem dX11_backlash_96 : decode cX11_backlash 96 = .ok (.iconst 2, 1) := by decide +kernel
theorem dX11_backlash_97 : decode cX11_backlash 97 = .ok (.if_icmp .ge 44, 3) := by decide +kernel
theorem dX11_backlash_100 : decode cX11_backlash 100 = .ok (.aload 4, 2) := by decide +kernel
theorem dX11_backlash_102 : decode cX11_backlash 102 = .ok (.aload_n 0, 1) := by decide +kernel
theorem dX11_backlash_103 : decode cX11_backlash 103 = .ok (.getfield 10, 3) := by decide +kernel
theorem dX11_backlash_106 : decode cX11_backlash 106 = .ok (.iload 5, 2) := by decide +kernel
theorem dX11_backlash_108 : decode cX11_backlash 108 = .ok (.invokeinterface 76 2, 5) := by decide +kernel
theorem dX11_backlash_113 : decode cX11_backlash 113 = .ok (.checkcast 40, 3) := by decide +kernel
theorem dX11_backlash_116 : decode cX11_backlash 116 = .ok (.iconst 1, 1) := by decide +kernel
theorem dX11_backlash_117 : decode cX11_backlash 117 = .ok (.iaload, 1) := by decide +kernel
theorem dX11_backlash_118 : decode cX11_backlash 118 = .ok (.i2l, 1) := by decide +kernel
theorem dX11_backlash_119 : decode cX11_backlash 119 = .ok (.aload_n 0, 1) := by decide +kernel
theorem dX11_backlash_120 : decode cX11_backlash 120 = .ok (.getfield 10, 3) := by decide +kernel
theorem dX11_backlash_123 : decode cX11_backlash 123 = .ok (.iload 5, 2) := by decide +kernel
theorem dX11_backlash_125 : decode cX11_backlash 125 = .ok (.invokeinterface 76 2, 5) := by decide +kernel
theorem dX11_backlash_130 : decode cX11_backlash 130 = .ok (.checkcast 40, 3) := by decide +kernel
theorem dX11_backlash_133 : decode cX11_backlash 133 = .ok (.iconst 2, 1) := by decide +kernel
theorem dX11_backlash_134 : decode cX11_backlash 134 = .ok (.iaload, 1) := by decide +kernel
theorem dX11_backlash_135 : decode cX11_backlash 135 = .ok (.i2l, 1) := by decide +kernel
theorem dX11_backlash_136 : decode cX11_backlash 136 = .ok (.invokevirtual 44, 3) := by decide +kernel
theorem dX11_backlash_139 : decode cX11_backlash 139 = .ok (.astore 4, 2) := by decide +kernel
theorem dX11_backlash_141 : decode cX11_backlash 141 = .ok (.iinc 5 1, 3) := by decide +kernel
theorem dX11_backlash_144 : decode cX11_backlash 144 = .ok (.goto (-78), 3) := by decide +kernel
theorem dX11_backlash_147 : decode cX11_backlash 147 = .ok (.aload_n 2, 1) := by decide +kernel
theorem dX11_backlash_148 : decode cX11_backlash 148 = .ok (.aload 4, 2) := by decide +kernel
theorem dX11_backlash_150 : decode cX11_backlash 150 = .ok (.iconst 1, 1) := by decide +kernel
theorem dX11_backlash_151 : decode cX11_backlash 151 = .ok (.invokevirtual 56, 3) := by decide +kernel
theorem dX11_backlash_154 : decode cX11_backlash 154 = .ok (.astore_n 2, 1) := by decide +kernel
theorem dX11_backlash_155 : decode cX11_backlash 155 = .ok (.iinc 3 1, 3) := by decide +kernel
theorem dX11_backlash_158 : decode cX11_backlash 158 = .ok (.goto (-146), 3) := by decide +kernel
theorem dX11_backlash_161 : decode cX11_backlash 161 = .ok (.aload_n 2, 1) := by decide +kernel
theorem dX11_backlash_162 : decode cX11_backlash 162 = .ok (.getfield 82, 3) := by decide +kernel
theorem dX11_backlash_165 : decode cX11_backlash 165 = .ok (.iload_n 1, 1) := by decide +kernel
theorem dX11_backlash_166 : decode cX11_backlash 166 = .ok (.i2l, 1) := by decide +kernel
theorem dX11_backlash_167 : decode cX11_backlash 167 = .ok (.lmul, 1) := by decide +kernel
theorem dX11_backlash_168 : decode cX11_backlash 168 = .ok (.aload_n 2, 1) := by decide +kernel
theorem dX11_backlash_169 : decode cX11_backlash 169 = .ok (.getfield 86, 3) := by decide +kernel
theorem dX11_backlash_172 : decode cX11_backlash 172 = .ok (.ldiv, 1) := by decide +kernel
theorem dX11_backlash_173 : decode cX11_backlash 173 = .ok (.l2i, 1) := by decide +kernel
theorem dX11_backlash_174 : decode cX11_backlash 174 = .ok (.ireturn, 1) := by decide +kernel
theorem dX12_init_0 : decode cX12_init 0 = .ok (.aload_n 0, 1) := by decide +kernel
theorem dX12_init_1 : decode cX12_init 1 = .ok (.invokespecial 1, 3) := by decide +kernel
theorem dX12_init_4 : decode cX12_init 4 = .ok (.lload_n 1, 1) := by decide +kernel
theorem dX12_init_5 : decode cX12_init 5 = .ok (.lload_n 3, 1) := by decide +kernel
theorem dX12_init_6 : decode cX12_init 6 = .ok (.invokestatic 7, 3) := by decide +kernel
theorem dX12_init_9 : decode cX12_init 9 = .ok (.lstore 5, 2) := by decide +kernel
theorem dX12_init_11 : decode cX12_init 11 = .ok (.aload_n 0, 1) := by decide +kernel
theorem dX12_init_12 : decode cX12_init 12 = .ok (.lload_n 1, 1) := by decide +kernel
theorem dX12_init_13 : decode cX12_init 13 = .ok (.lload 5, 2) := by decide +kernel
theorem dX12_init_15 : decode cX12_init 15 = .ok (.ldiv, 1) := by decide +kernel
theorem dX12_init_16 : decode cX12_init 16 = .ok (.putfield 13, 3) := by decide +kernel
theorem dX12_init_19 : decode cX12_init 19 = .ok (.aload_n 0, 1) := by decide +kernel
theorem dX12_init_20 : decode cX12_init 20 = .ok (.lload_n 3, 1) := by decide +kernel
theorem dX12_init_21 : decode cX12_init 21 = .ok (.lload 5, 2) := by decide +kernel
theorem dX12_init_23 : decode cX12_init 23 = .ok (.ldiv, 1) := by decide +kernel
theorem dX12_init_24 : decode cX12_init 24 = .ok (.putfield 19, 3) := by decide +kernel
theorem dX12_init_27 : decode cX12_init 27 = .ok (.return_, 1) := by decide +kernel
theorem dX12_plus_0 : decode cX12_plus 0 = .ok (.new 14, 3) := by decide +kernel
theorem dX12_plus_3 : decode cX12_plus 3 = .ok (.dup, 1) := by decide +kernel
theorem dX12_plus_4 : decode cX12_plus 4 = .ok (.aload_n 0, 1) := by decide +kernel
theorem dX12_plus_5 : decode cX12_plus 5 = .ok (.getfield 13, 3) := by decide +kernel
theorem dX12_plus_8 : decode cX12_plus 8 = .ok (.aload_n 1, 1) := by decide +kernel
theorem dX12_plus_9 : decode cX12_plus 9 = .ok (.getfield 19, 3) := by decide +kernel
theorem dX12_plus_12 : decode cX12_plus 12 = .ok (.lmul, 1) := by decide +kernel
theorem dX12_plus_13 : decode cX12_plus 13 = .ok (.iload_n 2, 1) := by decide +kernel
theorem dX12_plus_14 : decode cX12_plus 14 = .ok (.i2l, 1) := by decide +kernel
theorem dX12_plus_15 : decode cX12_plus 15 = .ok (.aload_n 1, 1) := by decide +kernel
theorem dX12_plus_16 : decode cX12_plus 16 = .ok (.getfield 13, 3) := by decide +kernel
theorem dX12_plus_19 : decode cX12_plus 19 = .ok (.lmul, 1) := by decide +kernel
theorem dX12_plus_20 : decode cX12_plus 20 = .ok (.aload_n 0, 1) := by decide +kernel
theorem dX12_plus_21 : decode cX12_plus 21 = .ok (.getfield 19, 3) := by decide +kernel
theorem dX12_plus_24 : decode cX12_plus 24 = .ok (.lmul, 1) := by decide +kernel
theorem dX12_plus_25 : decode cX12_plus 25 = .ok (.ladd, 1) := by decide +kernel
theorem dX12_plus_26 : decode cX12_plus 26 = .ok (.aload_n 0, 1) := by decide +kernel
theorem dX12_plus_27 : decode cX12_plus 27 = .ok (.getfield 19, 3) := by decide +kernel
theorem dX12_plus_30 : decode cX12_plus 30 = .ok (.aload_n 1, 1) := by decide +kernel
theorem dX12_plus_31 : decode cX12_plus 31 = .ok (.getfield 19, 3) := by decide +kernel
theorem dX12_plus_34 : decode cX12_plus 34 = .ok (.lmul, 1) := by decide +kernel
theorem dX12_plus_35 : decode cX12_plus 35 = .ok (.invokespecial 22, 3) := by decide +kernel
theorem dX12_plus_38 : decode cX12_plus 38 = .ok (.areturn, 1) := by decide +kernel
theorem dX12_times_0 : decode cX12_times 0 = .ok (.new 14, 3) := by decide +kernel
theorem dX12_times_3 : decode cX12_times 3 = .ok (.dup, 1) := by decide +kernel
theorem dX12_times_4 : decode cX12_times 4 = .ok (.aload_n 0, 1) := by decide +kernel
theorem dX12_times_5 : decode cX12_times 5 = .ok (.getfield 13, 3) := by decide +kernel
theorem dX12_times_8 : decode cX12_times 8 = .ok (.lload_n 1, 1) := by decide +kernel
theorem dX12_times_9 : decode cX12_times 9 = .ok (.lmul, 1) := by decide +kernel
theorem dX12_times_10 : decode cX12_times 10 = .ok (.aload_n 0, 1) := by decide +kernel
theorem dX12_times_11 : decode cX12_times 11 = .ok (.getfield 19, 3) := by decide +kernel
theorem dX12_times_14 : decode cX12_times 14 = .ok (.lload_n 3, 1) := by decide +kernel
theorem dX12_times_15 : decode cX12_times 15 = .ok (.lmul, 1) := by decide +kernel
theorem dX12_times_16 : decode cX12_times 16 = .ok (.invokespecial 22, 3) := by decide +kernel
theorem dX12_times_19 : decode cX12_times 19 = .ok (.areturn, 1) := by decide +kernel
theorem dX12_seconds_0 : decode cX12_seconds 0 = .ok (.iload_n 1, 1) := by decide +kernel
theorem dX12_seconds_1 : decode cX12_seconds 1 = .ok (.i2l, 1) := by decide +kernel
theorem dX12_seconds_2 : decode cX12_seconds 2 = .ok (.aload_n 0, 1) := by decide +kernel
theorem dX12_seconds_3 : decode cX12_seconds 3 = .ok (.getfield 13, 3) := by decide +kernel
theorem dX12_seconds_6 : decode cX12_seconds 6 = .ok (.lmul, 1) := by decide +kernel
theorem dX12_seconds_7 : decode cX12_seconds 7 = .ok (.aload_n 0, 1) := by decide +kernel
theorem dX12_seconds_8 : decode cX12_seconds 8 = .ok (.getfield 19, 3) := by decide +kernel
theorem dX12_seconds_11 : decode cX12_seconds 11 = .ok (.invokestatic 25, 3) := by decide +kernel
theorem dX12_seconds_14 : decode cX12_seconds 14 = .ok (.lstore_n 2, 1) := by decide +kernel
theorem dX12_seconds_15 : decode cX12_seconds 15 = .ok (.lload_n 2, 1) := by decide +kernel
theorem dX12_seconds_16 : decode cX12_seconds 16 = .ok (.ldc2_w 30, 3) := by decide +kernel
theorem dX12_seconds_19 : decode cX12_seconds 19 = .ok (.lmul, 1) := by decide +kernel
theorem dX12_seconds_20 : decode cX12_seconds 20 = .ok (.iload_n 1, 1) := by decide +kernel
theorem dX12_seconds_21 : decode cX12_seconds 21 = .ok (.i2l, 1) := by decide +kernel
theorem dX12_seconds_22 : decode cX12_seconds 22 = .ok (.aload_n 0, 1) := by decide +kernel
theorem dX12_seconds_23 : decode cX12_seconds 23 = .ok (.getfield 13, 3) := by decide +kernel
theorem dX12_seconds_26 : decode cX12_seconds 26 = .ok (.lmul, 1) := by decide +kernel
theorem dX12_seconds_27 : decode cX12_seconds 27 = .ok (.aload_n 0, 1) := by decide +kernel
theorem dX12_seconds_28 : decode cX12_seconds 28 = .ok (.getfield 19, 3) := by decide +kernel
theorem dX12_seconds_31 : decode cX12_seconds 31 = .ok (.invokestatic 32, 3) := by decide +kernel
theorem dX12_seconds_34 : decode cX12_seconds 34 = .ok (.ldc2_w 30, 3) := by decide +kernel
theorem dX12_seconds_37 : decode cX12_seconds 37 = .ok (.lmul, 1) := by decide +kernel
theorem dX12_seconds_38 : decode cX12_seconds 38 = .ok (.aload_n 0, 1) := by decide +kernel
theorem dX12_seconds_39 : decode cX12_seconds 39 = .ok (.getfield 19, 3) := by decide +kernel
theorem dX12_seconds_42 : decode cX12_seconds 42 = .ok (.ldiv, 1) := by decide +kernel
theorem dX12_seconds_43 : decode cX12_seconds 43 = .ok (.ladd, 1) := by decide +kernel
theorem dX12_seconds_44 : decode cX12_seconds 44 = .ok (.lreturn, 1) := by decide +kernel
theorem dX12_cut_0 : decode cX12_cut 0 = .ok (.aload_n 0, 1) := by decide +kernel
theorem dX12_cut_1 : decode cX12_cut 1 = .ok (.getfield 13, 3) := by decide +kernel
theorem dX12_cut_4 : decode cX12_cut 4 = .ok (.lconst 0, 1) := by decide +kernel
theorem dX12_cut_5 : decode cX12_cut 5 = .ok (.lcmp, 1) := by decide +kernel
theorem dX12_cut_6 : decode cX12_cut 6 = .ok (.ifCond .lt 11, 3) := by decide +kernel
theorem dX12_cut_9 : decode cX12_cut 9 = .ok (.aload_n 0, 1) := by decide +kernel
theorem dX12_cut_10 : decode cX12_cut 10 = .ok (.iload_n 1, 1) := by decide +kernel
theorem dX12_cut_11 : decode cX12_cut 11 = .ok (.invokevirtual 35, 3) := by decide +kernel
theorem dX12_cut_14 : decode cX12_cut 14 = .ok (.goto 24, 3) := by decide +kernel
theorem dX12_cut_17 : decode cX12_cut 17 = .ok (.new 14, 3) := by decide +kernel
theorem dX12_cut_20 : decode cX12_cut 20 = .ok (.dup, 1) := by decide +kernel
theorem dX12_cut_21 : decode cX12_cut 21 = .ok (.aload_n 0, 1) := by decide +kernel
theorem dX12_cut_22 : decode cX12_cut 22 = .ok (.getfield 13, 3) := by decide +kernel
theorem dX12_cut_25 : decode cX12_cut 25 = .ok (.lneg, 1) := by decide +kernel
theorem dX12_cut_26 : decode cX12_cut 26 = .ok (.aload_n 0, 1) := by decide +kernel
theorem dX12_cut_27 : decode cX12_cut 27 = .ok (.getfield 19, 3) := by decide +kernel
theorem dX12_cut_30 : decode cX12_cut 30 = .ok (.invokespecial 22, 3) := by decide +kernel
theorem dX12_cut_33 : decode cX12_cut 33 = .ok (.iload_n 1, 1) := by decide +kernel
theorem dX12_cut_34 : decode cX12_cut 34 = .ok (.invokevirtual 35, 3) := by decide +kernel
theorem dX12_cut_37 : decode cX12_cut 37 = .ok (.lneg, 1) := by decide +kernel
theorem dX12_cut_38 : decode cX12_cut 38 = .ok (.lreturn, 1) := by decide +kernel
theorem dJ5_init_d00df_0 : decode cJ5_init_d00df 0 = .ok (.aload_n 0, 1) := by decide +kernel
theorem dJ5_init_d00df_1 : decode cJ5_init_d00df 1 = .ok (.invokespecial 3, 3) := by decide +kernel
theorem dJ5_init_d00df_4 : decode cJ5_init_d00df 4 = .ok (.getstatic 18, 3) := by decide +kernel
theorem dJ5_init_d00df_7 : decode cJ5_init_d00df 7 = .ok (.ifCond .eq 18, 3) := by decide +kernel
theorem dJ5_init_d00df_10 : decode cJ5_init_d00df 10 = .ok (.aload_n 0, 1) := by decide +kernel
theorem dJ5_init_d00df_11 : decode cJ5_init_d00df 11 = .ok (.iload_n 1, 1) := by decide +kernel
theorem dJ5_init_d00df_12 : decode cJ5_init_d00df 12 = .ok (.newarray .byte, 2) := by decide +kernel
theorem dJ5_init_d00df_14 : decode cJ5_init_d00df 14 = .ok (.putfield 15, 3) := by decide +kernel
theorem dJ5_init_d00df_17 : decode cJ5_init_d00df 17 = .ok (.aload_n 0, 1) := by decide +kernel
theorem dJ5_init_d00df_18 : decode cJ5_init_d00df 18 = .ok (.iconst 0, 1) := by decide +kernel
theorem dJ5_init_d00df_19 : decode cJ5_init_d00df 19 = .ok (.putfield 22, 3) := by decide +kernel
theorem dJ5_init_d00df_22 : decode cJ5_init_d00df 22 = .ok (.goto 16, 3) := by decide +kernel
theorem dJ5_init_d00df_25 : decode cJ5_init_d00df 25 = .ok (.aload_n 0, 1) := by decide +kernel
theorem dJ5_init_d00df_26 : decode cJ5_init_d00df 26 = .ok (.iload_n 1, 1) := by decide +kernel
theorem dJ5_init_d00df_27 : decode cJ5_init_d00df 27 = .ok (.invokestatic 26, 3) := by decide +kernel
theorem dJ5_init_d00df_30 : decode cJ5_init_d00df 30 = .ok (.putfield 15, 3) := by decide +kernel
theorem dJ5_init_d00df_33 : decode cJ5_init_d00df 33 = .ok (.aload_n 0, 1) := by decide +kernel
theorem dJ5_init_d00df_34 : decode cJ5_init_d00df 34 = .ok (.iconst 1, 1) := by decide +kernel
theorem dJ5_init_d00df_35 : decode cJ5_init_d00df 35 = .ok (.putfield 22, 3) := by decide +kernel
theorem dJ5_init_d00df_38 : decode cJ5_init_d00df 38 = .ok (.return_, 1) := by decide +kernel
theorem dJ5_init_a7421_0 : decode cJ5_init_a7421 0 = .ok (.aload_n 0, 1) := by decide +kernel
theorem dJ5_init_a7421_1 : decode cJ5_init_a7421 1 = .ok (.invokespecial 3, 3) := by decide +kernel
theorem dJ5_init_a7421_4 : decode cJ5_init_a7421 4 = .ok (.aload_n 1, 1) := by decide +kernel
theorem dJ5_init_a7421_5 : decode cJ5_init_a7421 5 = .ok (.invokevirtual 32, 3) := by decide +kernel
theorem dJ5_init_a7421_8 : decode cJ5_init_a7421 8 = .ok (.istore_n 2, 1) := by decide +kernel
theorem dJ5_init_a7421_9 : decode cJ5_init_a7421 9 = .ok (.iload_n 2, 1) := by decide +kernel
theorem dJ5_init_a7421_10 : decode cJ5_init_a7421 10 = .ok (.ldc 38, 2) := by decide +kernel
theorem dJ5_init_a7421_12 : decode cJ5_init_a7421 12 = .ok (.if_icmp .ge 10, 3) := by decide +kernel
theorem dJ5_init_a7421_15 : decode cJ5_init_a7421 15 = .ok (.iload_n 2, 1) := by decide +kernel
theorem dJ5_init_a7421_16 : decode cJ5_init_a7421 16 = .ok (.bipush 16, 2) := by decide +kernel
theorem dJ5_init_a7421_18 : decode cJ5_init_a7421 18 = .ok (.iadd, 1) := by decide +kernel
theorem dJ5_init_a7421_19 : decode cJ5_init_a7421 19 = .ok (.goto 5, 3) := by decide +kernel
theorem dJ5_init_a7421_22 : decode cJ5_init_a7421 22 = .ok (.ldc 39, 2) := by decide +kernel
theorem dJ5_init_a7421_24 : decode cJ5_init_a7421 24 = .ok (.istore_n 3, 1) := by decide +kernel
theorem dJ5_init_a7421_25 : decode cJ5_init_a7421 25 = .ok (.aload_n 1, 1) := by decide +kernel
theorem dJ5_init_a7421_26 : decode cJ5_init_a7421 26 = .ok (.invokevirtual 40, 3) := by decide +kernel
theorem dJ5_init_a7421_29 : decode cJ5_init_a7421 29 = .ok (.istore 4, 2) := by decide +kernel
theorem dJ5_init_a7421_31 : decode cJ5_init_a7421 31 = .ok (.aload_n 0, 1) := by decide +kernel
theorem dJ5_init_a7421_32 : decode cJ5_init_a7421 32 = .ok (.iload 4, 2) := by decide +kernel
theorem dJ5_init_a7421_34 : decode cJ5_init_a7421 34 = .ok (.putfield 22, 3) := by decide +kernel
theorem dJ5_init_a7421_37 : decode cJ5_init_a7421 37 = .ok (.aload_n 0, 1) := by decide +kernel
theorem dJ5_init_a7421_38 : decode cJ5_init_a7421 38 = .ok (.iload 4, 2) := by decide +kernel
theorem dJ5_init_a7421_40 : decode cJ5_init_a7421 40 = .ok (.ifCond .ne 9, 3) := by decide +kernel
theorem dJ5_init_a7421_43 : decode cJ5_init_a7421 43 = .ok (.iload_n 3, 1) := by decide +kernel
theorem dJ5_init_a7421_44 : decode cJ5_init_a7421 44 = .ok (.newarray .byte, 2) := by decide +kernel
theorem dJ5_init_a7421_46 : decode cJ5_init_a7421 46 = .ok (.goto 7, 3) := by decide +kernel
theorem dJ5_init_a7421_49 : decode cJ5_init_a7421 49 = .ok (.iload_n 3, 1) := by decide +kernel
theorem dJ5_init_a7421_50 : decode cJ5_init_a7421 50 = .ok (.invokestatic 26, 3) := by decide +kernel
theorem dJ5_init_a7421_53 : decode cJ5_init_a7421 53 = .ok (.putfield 15, 3) := by decide +kernel
theorem dJ5_init_a7421_56 : decode cJ5_init_a7421 56 = .ok (.aload_n 0, 1) := by decide +kernel
theorem dJ5_init_a7421_57 : decode cJ5_init_a7421 57 = .ok (.aload_n 1, 1) := by decide +kernel
theorem dJ5_init_a7421_58 : decode cJ5_init_a7421 58 = .ok (.invokevirtual 43, 3) := by decide +kernel
theorem dJ5_init_a7421_61 : decode cJ5_init_a7421 61 = .ok (.pop, 1) := by decide +kernel
theorem dJ5_init_a7421_62 : decode cJ5_init_a7421 62 = .ok (.return_, 1) := by decide +kernel
theorem dJ5_length_8abf5_0 : decode cJ5_length_8abf5 0 = .ok (.aload_n 0, 1) := by decide +kernel
theorem dJ5_length_8abf5_1 : decode cJ5_length_8abf5 1 = .ok (.getfield 79, 3) := by decide +kernel
theorem dJ5_length_8abf5_4 : decode cJ5_length_8abf5 4 = .ok (.ireturn, 1) := by decide +kernel
theorem dJ5_ensureCapacityInternal_d00df_0 : decode cJ5_ensureCapacityInternal_d00df 0 = .ok (.aload_n 0, 1) := by decide +kernel
theorem dJ5_ensureCapacityInternal_d00df_1 : decode cJ5_ensureCapacityInternal_d00df 1 = .ok (.getfield 15, 3) := by decide +kernel
theorem dJ5_ensureCapacityInternal_d00df_4 : decode cJ5_ensureCapacityInternal_d00df 4 = .ok (.arraylength, 1) := by decide +kernel
theorem dJ5_ensureCapacityInternal_d00df_5 : decode cJ5_ensureCapacityInternal_d00df 5 = .ok (.aload_n 0, 1) := by decide +kernel
theorem dJ5_ensureCapacityInternal_d00df_6 : decode cJ5_ensureCapacityInternal_d00df 6 = .ok (.getfield 22, 3) := by decide +kernel
theorem dJ5_ensureCapacityInternal_d00df_9 : decode cJ5_ensureCapacityInternal_d00df 9 = .ok (.ishr, 1) := by decide +kernel
theorem dJ5_ensureCapacityInternal_d00df_10 : decode cJ5_ensureCapacityInternal_d00df 10 = .ok (.istore_n 2, 1) := by decide +kernel
theorem dJ5_ensureCapacityInternal_d00df_11 : decode cJ5_ensureCapacityInternal_d00df 11 = .ok (.iload_n 1, 1) := by decide +kernel
theorem dJ5_ensureCapacityInternal_d00df_12 : decode cJ5_ensureCapacityInternal_d00df 12 = .ok (.iload_n 2, 1) := by decide +kernel
theorem dJ5_ensureCapacityInternal_d00df_13 : decode cJ5_ensureCapacityInternal_d00df 13 = .ok (.isub, 1) := by decide +kernel
theorem dJ5_ensureCapacityInternal_d00df_14 : decode cJ5_ensureCapacityInternal_d00df 14 = .ok (.ifCond .le 24, 3) := by decide +kernel
theorem dJ5_ensureCapacityInternal_d00df_17 : decode cJ5_ensureCapacityInternal_d00df 17 = .ok (.aload_n 0, 1) := by decide +kernel
theorem dJ5_ensureCapacityInternal_d00df_18 : decode cJ5_ensureCapacityInternal_d00df 18 = .ok (.aload_n 0, 1) := by decide +kernel
theorem dJ5_ensureCapacityInternal_d00df_19 : decode cJ5_ensureCapacityInternal_d00df 19 = .ok (.getfield 15, 3) := by decide +kernel
theorem dJ5_ensureCapacityInternal_d00df_22 : decode cJ5_ensureCapacityInternal_d00df 22 = .ok (.aload_n 0, 1) := by decide +kernel
theorem dJ5_ensureCapacityInternal_d00df_23 : decode cJ5_ensureCapacityInternal_d00df 23 = .ok (.iload_n 1, 1) := by decide +kernel
theorem dJ5_ensureCapacityInternal_d00df_24 : decode cJ5_ensureCapacityInternal_d00df 24 = .ok (.invokevirtual 104, 3) := by decide +kernel
theorem dJ5_ensureCapacityInternal_d00df_27 : decode cJ5_ensureCapacityInternal_d00df 27 = .ok (.aload_n 0, 1) := by decide +kernel
theorem dJ5_ensureCapacityInternal_d00df_28 : decode cJ5_ensureCapacityInternal_d00df 28 = .ok (.getfield 22, 3) := by decide +kernel
theorem dJ5_ensureCapacityInternal_d00df_31 : decode cJ5_ensureCapacityInternal_d00df 31 = .ok (.ishl, 1) := by decide +kernel
theorem dJ5_ensureCapacityInternal_d00df_32 : decode cJ5_ensureCapacityInternal_d00df 32 = .ok (.invokestatic 108, 3) := by decide +kernel
theorem dJ5_ensureCapacityInternal_d00df_35 : decode cJ5_ensureCapacityInternal_d00df 35 = .ok (.putfield 15, 3) := by decide +kernel
theorem dJ5_ensureCapacityInternal_d00df_38 : decode cJ5_ensureCapacityInternal_d00df 38 = .ok (.return_, 1) := by decide +kernel
theorem dJ5_newCapacity_0f7a4_0 : decode cJ5_newCapacity_0f7a4 0 = .ok (.aload_n 0, 1) := by decide +kernel
theorem dJ5_newCapacity_0f7a4_1 : decode cJ5_newCapacity_0f7a4 1 = .ok (.getfield 15, 3) := by decide +kernel
theorem dJ5_newCapacity_0f7a4_4 : decode cJ5_newCapacity_0f7a4 4 = .ok (.arraylength, 1) := by decide +kernel
theorem dJ5_newCapacity_0f7a4_5 : decode cJ5_newCapacity_0f7a4 5 = .ok (.istore_n 2, 1) := by decide +kernel
theorem dJ5_newCapacity_0f7a4_6 : decode cJ5_newCapacity_0f7a4 6 = .ok (.iload_n 1, 1) := by decide +kernel
theorem dJ5_newCapacity_0f7a4_7 : decode cJ5_newCapacity_0f7a4 7 = .ok (.aload_n 0, 1) := by decide +kernel
theorem dJ5_newCapacity_0f7a4_8 : decode cJ5_newCapacity_0f7a4 8 = .ok (.getfield 22, 3) := by decide +kernel
theorem dJ5_newCapacity_0f7a4_11 : decode cJ5_newCapacity_0f7a4 11 = .ok (.ishl, 1) := by decide +kernel
theorem dJ5_newCapacity_0f7a4_12 : decode cJ5_newCapacity_0f7a4 12 = .ok (.istore_n 3, 1) := by decide +kernel
theorem dJ5_newCapacity_0f7a4_13 : decode cJ5_newCapacity_0f7a4 13 = .ok (.iload_n 3, 1) := by decide +kernel
theorem dJ5_newCapacity_0f7a4_14 : decode cJ5_newCapacity_0f7a4 14 = .ok (.iload_n 2, 1) := by decide +kernel
theorem dJ5_newCapacity_0f7a4_15 : decode cJ5_newCapacity_0f7a4 15 = .ok (.isub, 1) := by decide +kernel
theorem dJ5_newCapacity_0f7a4_16 : decode cJ5_newCapacity_0f7a4 16 = .ok (.istore 4, 2) := by decide +kernel
theorem dJ5_newCapacity_0f7a4_18 : decode cJ5_newCapacity_0f7a4 18 = .ok (.iload_n 2, 1) := by decide +kernel
theorem dJ5_newCapacity_0f7a4_19 : decode cJ5_newCapacity_0f7a4 19 = .ok (.iload 4, 2) := by decide +kernel
theorem dJ5_newCapacity_0f7a4_21 : decode cJ5_newCapacity_0f7a4 21 = .ok (.iload_n 2, 1) := by decide +kernel
theorem dJ5_newCapacity_0f7a4_22 : decode cJ5_newCapacity_0f7a4 22 = .ok (.iconst 2, 1) := by decide +kernel
theorem dJ5_newCapacity_0f7a4_23 : decode cJ5_newCapacity_0f7a4 23 = .ok (.aload_n 0, 1) := by decide +kernel
theorem dJ5_newCapacity_0f7a4_24 : decode cJ5_newCapacity_0f7a4 24 = .ok (.getfield 22, 3) := by decide +kernel
theorem dJ5_newCapacity_0f7a4_27 : decode cJ5_newCapacity_0f7a4 27 = .ok (.ishl, 1) := by decide +kernel
theorem dJ5_newCapacity_0f7a4_28 : decode cJ5_newCapacity_0f7a4 28 = .ok (.iadd, 1) := by decide +kernel
theorem dJ5_newCapacity_0f7a4_29 : decode cJ5_newCapacity_0f7a4 29 = .ok (.invokestatic 114, 3) := by decide +kernel
theorem dJ5_newCapacity_0f7a4_32 : decode cJ5_newCapacity_0f7a4 32 = .ok (.istore 5, 2) := by decide +kernel
theorem dJ5_newCapacity_0f7a4_34 : decode cJ5_newCapacity_0f7a4 34 = .ok (.iload 5, 2) := by decide +kernel
theorem dJ5_newCapacity_0f7a4_36 : decode cJ5_newCapacity_0f7a4 36 = .ok (.ldc 39, 2) := by decide +kernel
theorem dJ5_newCapacity_0f7a4_38 : decode cJ5_newCapacity_0f7a4 38 = .ok (.if_icmp .ne 13, 3) := by decide +kernel
theorem dJ5_newCapacity_0f7a4_41 : decode cJ5_newCapacity_0f7a4 41 = .ok (.new 120, 3) := by decide +kernel
theorem dJ5_newCapacity_0f7a4_44 : decode cJ5_newCapacity_0f7a4 44 = .ok (.dup, 1) := by decide +kernel
theorem dJ5_newCapacity_0f7a4_45 : decode cJ5_newCapacity_0f7a4 45 = .ok (.ldc 122, 2) := by decide +kernel
theorem dJ5_newCapacity_0f7a4_47 : decode cJ5_newCapacity_0f7a4 47 = .ok (.invokespecial 124, 3) := by decide +kernel
theorem dJ5_newCapacity_0f7a4_50 : decode cJ5_newCapacity_0f7a4 50 = .ok (.athrow, 1) := by decide +kernel
theorem dJ5_newCapacity_0f7a4_51 : decode cJ5_newCapacity_0f7a4 51 = .ok (.iload 5, 2) := by decide +kernel
theorem dJ5_newCapacity_0f7a4_53 : decode cJ5_newCapacity_0f7a4 53 = .ok (.aload_n 0, 1) := by decide +kernel
theorem dJ5_newCapacity_0f7a4_54 : decode cJ5_newCapacity_0f7a4 54 = .ok (.getfield 22, 3) := by decide +kernel
theorem dJ5_newCapacity_0f7a4_57 : decode cJ5_newCapacity_0f7a4 57 = .ok (.ishr, 1) := by decide +kernel
theorem dJ5_newCapacity_0f7a4_58 : decode cJ5_newCapacity_0f7a4 58 = .ok (.ireturn, 1) := by decide +kernel
theorem dJ5_inflate_da8c8_0 : decode cJ5_inflate_da8c8 0 = .ok (.aload_n 0, 1) := by decide +kernel
theorem dJ5_inflate_da8c8_1 : decode cJ5_inflate_da8c8 1 = .ok (.invokevirtual 83, 3) := by decide +kernel
theorem dJ5_inflate_da8c8_4 : decode cJ5_inflate_da8c8 4 = .ok (.ifCond .ne 4, 3) := by decide +kernel
theorem dJ5_inflate_da8c8_7 : decode cJ5_inflate_da8c8 7 = .ok (.return_, 1) := by decide +kernel
theorem dJ5_inflate_da8c8_8 : decode cJ5_inflate_da8c8 8 = .ok (.aload_n 0, 1) := by decide +kernel
theorem dJ5_inflate_da8c8_9 : decode cJ5_inflate_da8c8 9 = .ok (.getfield 15, 3) := by decide +kernel
theorem dJ5_inflate_da8c8_12 : decode cJ5_inflate_da8c8 12 = .ok (.arraylength, 1) := by decide +kernel
theorem dJ5_inflate_da8c8_13 : decode cJ5_inflate_da8c8 13 = .ok (.invokestatic 26, 3) := by decide +kernel
theorem dJ5_inflate_da8c8_16 : decode cJ5_inflate_da8c8 16 = .ok (.astore_n 1, 1) := by decide +kernel
theorem dJ5_inflate_da8c8_17 : decode cJ5_inflate_da8c8 17 = .ok (.aload_n 0, 1) := by decide +kernel
theorem dJ5_inflate_da8c8_18 : decode cJ5_inflate_da8c8 18 = .ok (.getfield 15, 3) := by decide +kernel
theorem dJ5_inflate_da8c8_21 : decode cJ5_inflate_da8c8 21 = .ok (.iconst 0, 1) := by decide +kernel
theorem dJ5_inflate_da8c8_22 : decode cJ5_inflate_da8c8 22 = .ok (.aload_n 1, 1) := by decide +kernel
theorem dJ5_inflate_da8c8_23 : decode cJ5_inflate_da8c8 23 = .ok (.iconst 0, 1) := by decide +kernel
theorem dJ5_inflate_da8c8_24 : decode cJ5_inflate_da8c8 24 = .ok (.aload_n 0, 1) := by decide +kernel
theorem dJ5_inflate_da8c8_25 : decode cJ5_inflate_da8c8 25 = .ok (.getfield 79, 3) := by decide +kernel
theorem dJ5_inflate_da8c8_28 : decode cJ5_inflate_da8c8 28 = .ok (.invokestatic 125, 3) := by decide +kernel
theorem dJ5_inflate_da8c8_31 : decode cJ5_inflate_da8c8 31 = .ok (.aload_n 0, 1) := by decide +kernel
theorem dJ5_inflate_da8c8_32 : decode cJ5_inflate_da8c8 32 = .ok (.aload_n 1, 1) := by decide +kernel
theorem dJ5_inflate_da8c8_33 : decode cJ5_inflate_da8c8 33 = .ok (.putfield 15, 3) := by decide +kernel
theorem dJ5_inflate_da8c8_36 : decode cJ5_inflate_da8c8 36 = .ok (.aload_n 0, 1) := by decide +kernel
theorem dJ5_inflate_da8c8_37 : decode cJ5_inflate_da8c8 37 = .ok (.iconst 1, 1) := by decide +kernel
theorem dJ5_inflate_da8c8_38 : decode cJ5_inflate_da8c8 38 = .ok (.putfield 22, 3) := by decide +kernel
theorem dJ5_inflate_da8c8_41 : decode cJ5_inflate_da8c8 41 = .ok (.return_, 1) := by decide +kernel
theorem dJ5_append_cf1ce_0 : decode cJ5_append_cf1ce 0 = .ok (.aload_n 1, 1) := by decide +kernel
theorem dJ5_append_cf1ce_1 : decode cJ5_append_cf1ce 1 = .ok (.ifnonnull 8, 3) := by decide +kernel
theorem dJ5_append_cf1ce_4 : decode cJ5_append_cf1ce 4 = .ok (.aload_n 0, 1) := by decide +kernel
theorem dJ5_append_cf1ce_5 : decode cJ5_append_cf1ce 5 = .ok (.invokevirtual 204, 3) := by decide +kernel
theorem dJ5_append_cf1ce_8 : decode cJ5_append_cf1ce 8 = .ok (.areturn, 1) := by decide +kernel
theorem dJ5_append_cf1ce_9 : decode cJ5_append_cf1ce 9 = .ok (.aload_n 1, 1) := by decide +kernel
theorem dJ5_append_cf1ce_10 : decode cJ5_append_cf1ce 10 = .ok (.invokevirtual 32, 3) := by decide +kernel
theorem dJ5_append_cf1ce_13 : decode cJ5_append_cf1ce 13 = .ok (.istore_n 2, 1) := by decide +kernel
theorem dJ5_append_cf1ce_14 : decode cJ5_append_cf1ce 14 = .ok (.aload_n 0, 1) := by decide +kernel
theorem dJ5_append_cf1ce_15 : decode cJ5_append_cf1ce 15 = .ok (.aload_n 0, 1) := by decide +kernel
theorem dJ5_append_cf1ce_16 : decode cJ5_append_cf1ce 16 = .ok (.getfield 79, 3) := by decide +kernel
theorem dJ5_append_cf1ce_19 : decode cJ5_append_cf1ce 19 = .ok (.iload_n 2, 1) := by decide +kernel
theorem dJ5_append_cf1ce_20 : decode cJ5_append_cf1ce 20 = .ok (.iadd, 1) := by decide +kernel
theorem dJ5_append_cf1ce_21 : decode cJ5_append_cf1ce 21 = .ok (.invokevirtual 100, 3) := by decide +kernel
theorem dJ5_append_cf1ce_24 : decode cJ5_append_cf1ce 24 = .ok (.aload_n 0, 1) := by decide +kernel
theorem dJ5_append_cf1ce_25 : decode cJ5_append_cf1ce 25 = .ok (.aload_n 0, 1) := by decide +kernel
theorem dJ5_append_cf1ce_26 : decode cJ5_append_cf1ce 26 = .ok (.getfield 79, 3) := by decide +kernel
theorem dJ5_append_cf1ce_29 : decode cJ5_append_cf1ce 29 = .ok (.aload_n 1, 1) := by decide +kernel
theorem dJ5_append_cf1ce_30 : decode cJ5_append_cf1ce 30 = .ok (.invokevirtual 208, 3) := by decide +kernel
theorem dJ5_append_cf1ce_33 : decode cJ5_append_cf1ce 33 = .ok (.aload_n 0, 1) := by decide +kernel
theorem dJ5_append_cf1ce_34 : decode cJ5_append_cf1ce 34 = .ok (.dup, 1) := by decide +kernel
theorem dJ5_append_cf1ce_35 : decode cJ5_append_cf1ce 35 = .ok (.getfield 79, 3) := by decide +kernel
theorem dJ5_append_cf1ce_38 : decode cJ5_append_cf1ce 38 = .ok (.iload_n 2, 1) := by decide +kernel
theorem dJ5_append_cf1ce_39 : decode cJ5_append_cf1ce 39 = .ok (.iadd, 1) := by decide +kernel
theorem dJ5_append_cf1ce_40 : decode cJ5_append_cf1ce 40 = .ok (.putfield 79, 3) := by decide +kernel
theorem dJ5_append_cf1ce_43 : decode cJ5_append_cf1ce 43 = .ok (.aload_n 0, 1) := by decide +kernel
theorem dJ5_append_cf1ce_44 : decode cJ5_append_cf1ce 44 = .ok (.areturn, 1) := by decide +kernel
theorem dJ5_appendNull_278bc_0 : decode cJ5_appendNull_278bc 0 = .ok (.aload_n 0, 1) := by decide +kernel
theorem dJ5_appendNull_278bc_1 : decode cJ5_appendNull_278bc 1 = .ok (.aload_n 0, 1) := by decide +kernel
theorem dJ5_appendNull_278bc_2 : decode cJ5_appendNull_278bc 2 = .ok (.getfield 79, 3) := by decide +kernel
theorem dJ5_appendNull_278bc_5 : decode cJ5_appendNull_278bc 5 = .ok (.iconst 4, 1) := by decide +kernel
theorem dJ5_appendNull_278bc_6 : decode cJ5_appendNull_278bc 6 = .ok (.iadd, 1) := by decide +kernel
theorem dJ5_appendNull_278bc_7 : decode cJ5_appendNull_278bc 7 = .ok (.invokevirtual 100, 3) := by decide +kernel
theorem dJ5_appendNull_278bc_10 : decode cJ5_appendNull_278bc 10 = .ok (.aload_n 0, 1) := by decide +kernel
theorem dJ5_appendNull_278bc_11 : decode cJ5_appendNull_278bc 11 = .ok (.getfield 79, 3) := by decide +kernel
theorem dJ5_appendNull_278bc_14 : decode cJ5_appendNull_278bc 14 = .ok (.istore_n 1, 1) := by decide +kernel
theorem dJ5_appendNull_278bc_15 : decode cJ5_appendNull_278bc 15 = .ok (.aload_n 0, 1) := by decide +kernel
theorem dJ5_appendNull_278bc_16 : decode cJ5_appendNull_278bc 16 = .ok (.getfield 15, 3) := by decide +kernel
theorem dJ5_appendNull_278bc_19 : decode cJ5_appendNull_278bc 19 = .ok (.astore_n 2, 1) := by decide +kernel
theorem dJ5_appendNull_278bc_20 : decode cJ5_appendNull_278bc 20 = .ok (.aload_n 0, 1) := by decide +kernel
theorem dJ5_appendNull_278bc_21 : decode cJ5_appendNull_278bc 21 = .ok (.invokevirtual 83, 3) := by decide +kernel
theorem dJ5_appendNull_278bc_24 : decode cJ5_appendNull_278bc 24 = .ok (.ifCond .eq 38, 3) := by decide +kernel
theorem dJ5_appendNull_278bc_27 : decode cJ5_appendNull_278bc 27 = .ok (.aload_n 2, 1) := by decide +kernel
theorem dJ5_appendNull_278bc_28 : decode cJ5_appendNull_278bc 28 = .ok (.iload_n 1, 1) := by decide +kernel
theorem dJ5_appendNull_278bc_29 : decode cJ5_appendNull_278bc 29 = .ok (.iinc 1 1, 3) := by decide +kernel
theorem dJ5_appendNull_278bc_32 : decode cJ5_appendNull_278bc 32 = .ok (.bipush 110, 2) := by decide +kernel
theorem dJ5_appendNull_278bc_34 : decode cJ5_appendNull_278bc 34 = .ok (.bastore, 1) := by decide +kernel
theorem dJ5_appendNull_278bc_35 : decode cJ5_appendNull_278bc 35 = .ok (.aload_n 2, 1) := by decide +kernel
theorem dJ5_appendNull_278bc_36 : decode cJ5_appendNull_278bc 36 = .ok (.iload_n 1, 1) := by decide +kernel
theorem dJ5_appendNull_278bc_37 : decode cJ5_appendNull_278bc 37 = .ok (.iinc 1 1, 3) := by decide +kernel
theorem dJ5_appendNull_278bc_40 : decode cJ5_appendNull_278bc 40 = .ok (.bipush 117, 2) := by decide +kernel
theorem dJ5_appendNull_278bc_42 : decode cJ5_appendNull_278bc 42 = .ok (.bastore, 1) := by decide +kernel
theorem dJ5_appendNull_278bc_43 : decode cJ5_appendNull_278bc 43 = .ok (.aload_n 2, 1) := by decide +kernel
theorem dJ5_appendNull_278bc_44 : decode cJ5_appendNull_278bc 44 = .ok (.iload_n 1, 1) := by decide +kernel
theorem dJ5_appendNull_278bc_45 : decode cJ5_appendNull_278bc 45 = .ok (.iinc 1 1, 3) := by decide +kernel
theorem dJ5_appendNull_278bc_48 : decode cJ5_appendNull_278bc 48 = .ok (.bipush 108, 2) := by decide +kernel
theorem dJ5_appendNull_278bc_50 : decode cJ5_appendNull_278bc 50 = .ok (.bastore, 1) := by decide +kernel
theorem dJ5_appendNull_278bc_51 : decode cJ5_appendNull_278bc 51 = .ok (.aload_n 2, 1) := by decide +kernel
theorem dJ5_appendNull_278bc_52 : decode cJ5_appendNull_278bc 52 = .ok (.iload_n 1, 1) := by decide +kernel
theorem dJ5_appendNull_278bc_53 : decode cJ5_appendNull_278bc 53 = .ok (.iinc 1 1, 3) := by decide +kernel
theorem dJ5_appendNull_278bc_56 : decode cJ5_appendNull_278bc 56 = .ok (.bipush 108, 2) := by decide +kernel
theorem dJ5_appendNull_278bc_58 : decode cJ5_appendNull_278bc 58 = .ok (.bastore, 1) := by decide +kernel
theorem dJ5_appendNull_278bc_59 : decode cJ5_appendNull_278bc 59 = .ok (.goto 17, 3) := by decide +kernel
theorem dJ5_appendNull_278bc_62 : decode cJ5_appendNull_278bc 62 = .ok (.aload_n 2, 1) := by decide +kernel
theorem dJ5_appendNull_278bc_63 : decode cJ5_appendNull_278bc 63 = .ok (.iload_n 1, 1) := by decide +kernel
theorem dJ5_appendNull_278bc_64 : decode cJ5_appendNull_278bc 64 = .ok (.bipush 110, 2) := by decide +kernel
theorem dJ5_appendNull_278bc_66 : decode cJ5_appendNull_278bc 66 = .ok (.bipush 117, 2) := by decide +kernel
theorem dJ5_appendNull_278bc_68 : decode cJ5_appendNull_278bc 68 = .ok (.bipush 108, 2) := by decide +kernel
theorem dJ5_appendNull_278bc_70 : decode cJ5_appendNull_278bc 70 = .ok (.bipush 108, 2) := by decide +kernel
theorem dJ5_appendNull_278bc_72 : decode cJ5_appendNull_278bc 72 = .ok (.invokestatic 226, 3) := by decide +kernel
theorem dJ5_appendNull_278bc_75 : decode cJ5_appendNull_278bc 75 = .ok (.istore_n 1, 1) := by decide +kernel
theorem dJ5_appendNull_278bc_76 : decode cJ5_appendNull_278bc 76 = .ok (.aload_n 0, 1) := by decide +kernel
theorem dJ5_appendNull_278bc_77 : decode cJ5_appendNull_278bc 77 = .ok (.iload_n 1, 1) := by decide +kernel
theorem dJ5_appendNull_278bc_78 : decode cJ5_appendNull_278bc 78 = .ok (.putfield 79, 3) := by decide +kernel
theorem dJ5_appendNull_278bc_81 : decode cJ5_appendNull_278bc 81 = .ok (.aload_n 0, 1) := by decide +kernel
theorem dJ5_appendNull_278bc_82 : decode cJ5_appendNull_278bc 82 = .ok (.areturn, 1) := by decide +kernel
theorem dJ5_append_3fe6f_0 : decode cJ5_append_3fe6f 0 = .ok (.aload_n 0, 1) := by decide +kernel
theorem dJ5_append_3fe6f_1 : decode cJ5_append_3fe6f 1 = .ok (.aload_n 0, 1) := by decide +kernel
theorem dJ5_append_3fe6f_2 : decode cJ5_append_3fe6f 2 = .ok (.getfield 79, 3) := by decide +kernel
theorem dJ5_append_3fe6f_5 : decode cJ5_append_3fe6f 5 = .ok (.iconst 1, 1) := by decide +kernel
theorem dJ5_append_3fe6f_6 : decode cJ5_append_3fe6f 6 = .ok (.iadd, 1) := by decide +kernel
theorem dJ5_append_3fe6f_7 : decode cJ5_append_3fe6f 7 = .ok (.invokevirtual 100, 3) := by decide +kernel
theorem dJ5_append_3fe6f_10 : decode cJ5_append_3fe6f 10 = .ok (.aload_n 0, 1) := by decide +kernel
theorem dJ5_append_3fe6f_11 : decode cJ5_append_3fe6f 11 = .ok (.invokevirtual 83, 3) := by decide +kernel
theorem dJ5_append_3fe6f_14 : decode cJ5_append_3fe6f 14 = .ok (.ifCond .eq 31, 3) := by decide +kernel
theorem dJ5_append_3fe6f_17 : decode cJ5_append_3fe6f 17 = .ok (.iload_n 1, 1) := by decide +kernel
theorem dJ5_append_3fe6f_18 : decode cJ5_append_3fe6f 18 = .ok (.invokestatic 191, 3) := by decide +kernel
theorem dJ5_append_3fe6f_21 : decode cJ5_append_3fe6f 21 = .ok (.ifCond .eq 24, 3) := by decide +kernel
theorem dJ5_append_3fe6f_24 : decode cJ5_append_3fe6f 24 = .ok (.aload_n 0, 1) := by decide +kernel
theorem dJ5_append_3fe6f_25 : decode cJ5_append_3fe6f 25 = .ok (.getfield 15, 3) := by decide +kernel
theorem dJ5_append_3fe6f_28 : decode cJ5_append_3fe6f 28 = .ok (.aload_n 0, 1) := by decide +kernel
theorem dJ5_append_3fe6f_29 : decode cJ5_append_3fe6f 29 = .ok (.dup, 1) := by decide +kernel
theorem dJ5_append_3fe6f_30 : decode cJ5_append_3fe6f 30 = .ok (.getfield 79, 3) := by decide +kernel
theorem dJ5_append_3fe6f_33 : decode cJ5_append_3fe6f 33 = .ok (.dup_x1, 1) := by decide +kernel
theorem dJ5_append_3fe6f_34 : decode cJ5_append_3fe6f 34 = .ok (.iconst 1, 1) := by decide +kernel
theorem dJ5_append_3fe6f_35 : decode cJ5_append_3fe6f 35 = .ok (.iadd, 1) := by decide +kernel
theorem dJ5_append_3fe6f_36 : decode cJ5_append_3fe6f 36 = .ok (.putfield 79, 3) := by decide +kernel
theorem dJ5_append_3fe6f_39 : decode cJ5_append_3fe6f 39 = .ok (.iload_n 1, 1) := by decide +kernel
theorem dJ5_append_3fe6f_40 : decode cJ5_append_3fe6f 40 = .ok (.i2b, 1) := by decide +kernel
theorem dJ5_append_3fe6f_41 : decode cJ5_append_3fe6f 41 = .ok (.bastore, 1) := by decide +kernel
theorem dJ5_append_3fe6f_42 : decode cJ5_append_3fe6f 42 = .ok (.goto 33, 3) := by decide +kernel
theorem dJ5_append_3fe6f_45 : decode cJ5_append_3fe6f 45 = .ok (.aload_n 0, 1) := by decide +kernel
theorem dJ5_append_3fe6f_46 : decode cJ5_append_3fe6f 46 = .ok (.invokevirtual 83, 3) := by decide +kernel
theorem dJ5_append_3fe6f_49 : decode cJ5_append_3fe6f 49 = .ok (.ifCond .eq 7, 3) := by decide +kernel
theorem dJ5_append_3fe6f_52 : decode cJ5_append_3fe6f 52 = .ok (.aload_n 0, 1) := by decide +kernel
theorem dJ5_append_3fe6f_53 : decode cJ5_append_3fe6f 53 = .ok (.invokevirtual 195, 3) := by decide +kernel
theorem dJ5_append_3fe6f_56 : decode cJ5_append_3fe6f 56 = .ok (.aload_n 0, 1) := by decide +kernel
theorem dJ5_append_3fe6f_57 : decode cJ5_append_3fe6f 57 = .ok (.getfield 15, 3) := by decide +kernel
theorem dJ5_append_3fe6f_60 : decode cJ5_append_3fe6f 60 = .ok (.aload_n 0, 1) := by decide +kernel
theorem dJ5_append_3fe6f_61 : decode cJ5_append_3fe6f 61 = .ok (.dup, 1) := by decide +kernel
theorem dJ5_append_3fe6f_62 : decode cJ5_append_3fe6f 62 = .ok (.getfield 79, 3) := by decide +kernel
theorem dJ5_append_3fe6f_65 : decode cJ5_append_3fe6f 65 = .ok (.dup_x1, 1) := by decide +kernel
theorem dJ5_append_3fe6f_66 : decode cJ5_append_3fe6f 66 = .ok (.iconst 1, 1) := by decide +kernel
theorem dJ5_append_3fe6f_67 : decode cJ5_append_3fe6f 67 = .ok (.iadd, 1) := by decide +kernel
theorem dJ5_append_3fe6f_68 : decode cJ5_append_3fe6f 68 = .ok (.putfield 79, 3) := by decide +kernel
theorem dJ5_append_3fe6f_71 : decode cJ5_append_3fe6f 71 = .ok (.iload_n 1, 1) := by decide +kernel
theorem dJ5_append_3fe6f_72 : decode cJ5_append_3fe6f 72 = .ok (.invokestatic 197, 3) := by decide +kernel
theorem dJ5_append_3fe6f_75 : decode cJ5_append_3fe6f 75 = .ok (.aload_n 0, 1) := by decide +kernel
theorem dJ5_append_3fe6f_76 : decode cJ5_append_3fe6f 76 = .ok (.areturn, 1) := by decide +kernel
theorem dJ5_append_c97b9_0 : decode cJ5_append_c97b9 0 = .ok (.aload_n 0, 1) := by decide +kernel
theorem dJ5_append_c97b9_1 : decode cJ5_append_c97b9 1 = .ok (.getfield 79, 3) := by decide +kernel
theorem dJ5_append_c97b9_4 : decode cJ5_append_c97b9 4 = .ok (.istore_n 2, 1) := by decide +kernel
theorem dJ5_append_c97b9_5 : decode cJ5_append_c97b9 5 = .ok (.iload_n 2, 1) := by decide +kernel
theorem dJ5_append_c97b9_6 : decode cJ5_append_c97b9 6 = .ok (.iload_n 1, 1) := by decide +kernel
theorem dJ5_append_c97b9_7 : decode cJ5_append_c97b9 7 = .ok (.invokestatic 245, 3) := by decide +kernel
theorem dJ5_append_c97b9_10 : decode cJ5_append_c97b9 10 = .ok (.iadd, 1) := by decide +kernel
theorem dJ5_append_c97b9_11 : decode cJ5_append_c97b9 11 = .ok (.istore_n 3, 1) := by decide +kernel
theorem dJ5_append_c97b9_12 : decode cJ5_append_c97b9 12 = .ok (.aload_n 0, 1) := by decide +kernel
theorem dJ5_append_c97b9_13 : decode cJ5_append_c97b9 13 = .ok (.iload_n 3, 1) := by decide +kernel
theorem dJ5_append_c97b9_14 : decode cJ5_append_c97b9 14 = .ok (.invokevirtual 100, 3) := by decide +kernel
theorem dJ5_append_c97b9_17 : decode cJ5_append_c97b9 17 = .ok (.aload_n 0, 1) := by decide +kernel
theorem dJ5_append_c97b9_18 : decode cJ5_append_c97b9 18 = .ok (.invokevirtual 83, 3) := by decide +kernel
theorem dJ5_append_c97b9_21 : decode cJ5_append_c97b9 21 = .ok (.ifCond .eq 16, 3) := by decide +kernel
theorem dJ5_append_c97b9_24 : decode cJ5_append_c97b9 24 = .ok (.iload_n 1, 1) := by decide +kernel
theorem dJ5_append_c97b9_25 : decode cJ5_append_c97b9 25 = .ok (.iload_n 3, 1) := by decide +kernel
theorem dJ5_append_c97b9_26 : decode cJ5_append_c97b9 26 = .ok (.aload_n 0, 1) := by decide +kernel
theorem dJ5_append_c97b9_27 : decode cJ5_append_c97b9 27 = .ok (.getfield 15, 3) := by decide +kernel
theorem dJ5_append_c97b9_30 : decode cJ5_append_c97b9 30 = .ok (.invokestatic 248, 3) := by decide +kernel
theorem dJ5_append_c97b9_33 : decode cJ5_append_c97b9 33 = .ok (.pop, 1) := by decide +kernel
theorem dJ5_append_c97b9_34 : decode cJ5_append_c97b9 34 = .ok (.goto 14, 3) := by decide +kernel
theorem dJ5_append_c97b9_37 : decode cJ5_append_c97b9 37 = .ok (.iload_n 1, 1) := by decide +kernel
theorem dJ5_append_c97b9_38 : decode cJ5_append_c97b9 38 = .ok (.iload_n 2, 1) := by decide +kernel
theorem dJ5_append_c97b9_39 : decode cJ5_append_c97b9 39 = .ok (.iload_n 3, 1) := by decide +kernel
theorem dJ5_append_c97b9_40 : decode cJ5_append_c97b9 40 = .ok (.aload_n 0, 1) := by decide +kernel
theorem dJ5_append_c97b9_41 : decode cJ5_append_c97b9 41 = .ok (.getfield 15, 3) := by decide +kernel
theorem dJ5_append_c97b9_44 : decode cJ5_append_c97b9 44 = .ok (.invokestatic 251, 3) := by decide +kernel
theorem dJ5_append_c97b9_47 : decode cJ5_append_c97b9 47 = .ok (.pop, 1) := by decide +kernel
theorem dJ5_append_c97b9_48 : decode cJ5_append_c97b9 48 = .ok (.aload_n 0, 1) := by decide +kernel
theorem dJ5_append_c97b9_49 : decode cJ5_append_c97b9 49 = .ok (.iload_n 3, 1) := by decide +kernel
theorem dJ5_append_c97b9_50 : decode cJ5_append_c97b9 50 = .ok (.putfield 79, 3) := by decide +kernel
theorem dJ5_append_c97b9_53 : decode cJ5_append_c97b9 53 = .ok (.aload_n 0, 1) := by decide +kernel
theorem dJ5_append_c97b9_54 : decode cJ5_append_c97b9 54 = .ok (.areturn, 1) := by decide +kernel
theorem dJ5_getValue_6d5f1_0 : decode cJ5_getValue_6d5f1 0 = .ok (.aload_n 0, 1) := by decide +kernel
theorem dJ5_getValue_6d5f1_1 : decode cJ5_getValue_6d5f1 1 = .ok (.getfield 15, 3) := by decide +kernel
theorem dJ5_getValue_6d5f1_4 : decode cJ5_getValue_6d5f1 4 = .ok (.areturn, 1) := by decide +kernel
theorem dJ5_isLatin1_aae02_0 : decode cJ5_isLatin1_aae02 0 = .ok (.getstatic 18, 3) := by decide +kernel
theorem dJ5_isLatin1_aae02_3 : decode cJ5_isLatin1_aae02 3 = .ok (.ifCond .eq 14, 3) := by decide +kernel
theorem dJ5_isLatin1_aae02_6 : decode cJ5_isLatin1_aae02 6 = .ok (.aload_n 0, 1) := by decide +kernel
theorem dJ5_isLatin1_aae02_7 : decode cJ5_isLatin1_aae02 7 = .ok (.getfield 22, 3) := by decide +kernel
theorem dJ5_isLatin1_aae02_10 : decode cJ5_isLatin1_aae02 10 = .ok (.ifCond .ne 7, 3) := by decide +kernel
theorem dJ5_isLatin1_aae02_13 : decode cJ5_isLatin1_aae02 13 = .ok (.iconst 1, 1) := by decide +kernel
theorem dJ5_isLatin1_aae02_14 : decode cJ5_isLatin1_aae02 14 = .ok (.goto 4, 3) := by decide +kernel
theorem dJ5_isLatin1_aae02_17 : decode cJ5_isLatin1_aae02 17 = .ok (.iconst 0, 1) := by decide +kernel
theorem dJ5_isLatin1_aae02_18 : decode cJ5_isLatin1_aae02 18 = .ok (.ireturn, 1) := by decide +kernel
theorem dJ5_inflateIfNeededFor_a7421_0 : decode cJ5_inflateIfNeededFor_a7421 0 = .ok (.getstatic 18, 3) := by decide +kernel
theorem dJ5_inflateIfNeededFor_a7421_3 : decode cJ5_inflateIfNeededFor_a7421 3 = .ok (.ifCond .eq 18, 3) := by decide +kernel
theorem dJ5_inflateIfNeededFor_a7421_6 : decode cJ5_inflateIfNeededFor_a7421 6 = .ok (.aload_n 0, 1) := by decide +kernel
