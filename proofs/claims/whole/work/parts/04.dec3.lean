theorem dX11_backlashNow_72 : decode cX11_backlashNow 72 = .ok (.iconst 2, 1) := by decide +kernel
theorem dX11_backlashNow_73 : decode cX11_backlashNow 73 = .ok (.invokevirtual 191, 3) := by decide +kernel
theorem dX11_backlashNow_76 : decode cX11_backlashNow 76 = .ok (.i2l, 1) := by decide +kernel
theorem dX11_backlashNow_77 : decode cX11_backlashNow 77 = .ok (.lmul, 1) := by decide +kernel
theorem dX11_backlashNow_78 : decode cX11_backlashNow 78 = .ok (.lstore_n 2, 1) := by decide +kernel
theorem dX11_backlashNow_79 : decode cX11_backlashNow 79 = .ok (.lload 4, 2) := by decide +kernel
theorem dX11_backlashNow_81 : decode cX11_backlashNow 81 = .ok (.aload_n 0, 1) := by decide +kernel
theorem dX11_backlashNow_82 : decode cX11_backlashNow 82 = .ok (.iload_n 1, 1) := by decide +kernel
theorem dX11_backlashNow_83 : decode cX11_backlashNow 83 = .ok (.iload 8, 2) := by decide +kernel
theorem dX11_backlashNow_85 : decode cX11_backlashNow 85 = .ok (.iconst 2, 1) := by decide +kernel
theorem dX11_backlashNow_86 : decode cX11_backlashNow 86 = .ok (.invokevirtual 191, 3) := by decide +kernel
theorem dX11_backlashNow_89 : decode cX11_backlashNow 89 = .ok (.i2l, 1) := by decide +kernel
theorem dX11_backlashNow_90 : decode cX11_backlashNow 90 = .ok (.lmul, 1) := by decide +kernel
theorem dX11_backlashNow_91 : decode cX11_backlashNow 91 = .ok (.lstore 4, 2) := by decide +kernel
theorem dX11_backlashNow_93 : decode cX11_backlashNow 93 = .ok (.lload 6, 2) := by decide +kernel
theorem dX11_backlashNow_95 : decode cX11_backlashNow 95 = .ok (.aload_n 0, 1) := by decide +kernel
theorem dX11_backlashNow_96 : decode cX11_backlashNow 96 = .ok (.iload_n 1, 1) := by decide +kernel
theorem dX11_backlashNow_97 : decode cX11_backlashNow 97 = .ok (.iload 8, 2) := by decide +kernel
theorem dX11_backlashNow_99 : decode cX11_backlashNow 99 = .ok (.iconst 1, 1) := by decide +kernel
theorem dX11_backlashNow_100 : decode cX11_backlashNow 100 = .ok (.invokevirtual 191, 3) := by decide +kernel
theorem dX11_backlashNow_103 : decode cX11_backlashNow 103 = .ok (.i2l, 1) := by decide +kernel
theorem dX11_backlashNow_104 : decode cX11_backlashNow 104 = .ok (.lmul, 1) := by decide +kernel
theorem dX11_backlashNow_105 : decode cX11_backlashNow 105 = .ok (.lstore 6, 2) := by decide +kernel
theorem dX11_backlashNow_107 : decode cX11_backlashNow 107 = .ok (.iinc 8 (-1), 3) := by decide +kernel
theorem dX11_backlashNow_110 : decode cX11_backlashNow 110 = .ok (.goto (-93), 3) := by decide +kernel
theorem dX11_backlashNow_113 : decode cX11_backlashNow 113 = .ok (.lload_n 2, 1) := by decide +kernel
theorem dX11_backlashNow_114 : decode cX11_backlashNow 114 = .ok (.aload_n 0, 1) := by decide +kernel
theorem dX11_backlashNow_115 : decode cX11_backlashNow 115 = .ok (.getfield 22, 3) := by decide +kernel
theorem dX11_backlashNow_118 : decode cX11_backlashNow 118 = .ok (.bipush 17, 2) := by decide +kernel
theorem dX11_backlashNow_120 : decode cX11_backlashNow 120 = .ok (.iaload, 1) := by decide +kernel
theorem dX11_backlashNow_121 : decode cX11_backlashNow 121 = .ok (.i2l, 1) := by decide +kernel
theorem dX11_backlashNow_122 : decode cX11_backlashNow 122 = .ok (.lmul, 1) := by decide +kernel
theorem dX11_backlashNow_123 : decode cX11_backlashNow 123 = .ok (.lload 4, 2) := by decide +kernel
theorem dX11_backlashNow_125 : decode cX11_backlashNow 125 = .ok (.ldiv, 1) := by decide +kernel
theorem dX11_backlashNow_126 : decode cX11_backlashNow 126 = .ok (.l2i, 1) := by decide +kernel
theorem dX11_backlashNow_127 : decode cX11_backlashNow 127 = .ok (.ireturn, 1) := by decide +kernel
theorem dX11_isLeap_0 : decode cX11_isLeap 0 = .ok (.iload_n 0, 1) := by decide +kernel
theorem dX11_isLeap_1 : decode cX11_isLeap 1 = .ok (.iconst 4, 1) := by decide +kernel
theorem dX11_isLeap_2 : decode cX11_isLeap 2 = .ok (.irem, 1) := by decide +kernel
theorem dX11_isLeap_3 : decode cX11_isLeap 3 = .ok (.ifCond .ne 22, 3) := by decide +kernel
theorem dX11_isLeap_6 : decode cX11_isLeap 6 = .ok (.iload_n 0, 1) := by decide +kernel
theorem dX11_isLeap_7 : decode cX11_isLeap 7 = .ok (.bipush 100, 2) := by decide +kernel
theorem dX11_isLeap_9 : decode cX11_isLeap 9 = .ok (.irem, 1) := by decide +kernel
theorem dX11_isLeap_10 : decode cX11_isLeap 10 = .ok (.ifCond .ne 11, 3) := by decide +kernel
theorem dX11_isLeap_13 : decode cX11_isLeap 13 = .ok (.iload_n 0, 1) := by decide +kernel
theorem dX11_isLeap_14 : decode cX11_isLeap 14 = .ok (.sipush 400, 3) := by decide +kernel
theorem dX11_isLeap_17 : decode cX11_isLeap 17 = .ok (.irem, 1) := by decide +kernel
theorem dX11_isLeap_18 : decode cX11_isLeap 18 = .ok (.ifCond .ne 7, 3) := by decide +kernel
theorem dX11_isLeap_21 : decode cX11_isLeap 21 = .ok (.iconst 1, 1) := by decide +kernel
theorem dX11_isLeap_22 : decode cX11_isLeap 22 = .ok (.goto 4, 3) := by decide +kernel
theorem dX11_isLeap_25 : decode cX11_isLeap 25 = .ok (.iconst 0, 1) := by decide +kernel
theorem dX11_isLeap_26 : decode cX11_isLeap 26 = .ok (.ireturn, 1) := by decide +kernel
theorem dX11_daysNow_0 : decode cX11_daysNow 0 = .ok (.iload_n 0, 1) := by decide +kernel
theorem dX11_daysNow_1 : decode cX11_daysNow 1 = .ok (.invokestatic 293, 3) := by decide +kernel
theorem dX11_daysNow_4 : decode cX11_daysNow 4 = .ok (.ifCond .eq 9, 3) := by decide +kernel
theorem dX11_daysNow_7 : decode cX11_daysNow 7 = .ok (.sipush 366, 3) := by decide +kernel
theorem dX11_daysNow_10 : decode cX11_daysNow 10 = .ok (.goto 6, 3) := by decide +kernel
theorem dX11_daysNow_13 : decode cX11_daysNow 13 = .ok (.sipush 365, 3) := by decide +kernel
theorem dX11_daysNow_16 : decode cX11_daysNow 16 = .ok (.ireturn, 1) := by decide +kernel
theorem dX11_leapsBefore_0 : decode cX11_leapsBefore 0 = .ok (.iload_n 0, 1) := by decide +kernel
theorem dX11_leapsBefore_1 : decode cX11_leapsBefore 1 = .ok (.iconst 1, 1) := by decide +kernel
theorem dX11_leapsBefore_2 : decode cX11_leapsBefore 2 = .ok (.isub, 1) := by decide +kernel
theorem dX11_leapsBefore_3 : decode cX11_leapsBefore 3 = .ok (.istore_n 1, 1) := by decide +kernel
theorem dX11_leapsBefore_4 : decode cX11_leapsBefore 4 = .ok (.iload_n 1, 1) := by decide +kernel
theorem dX11_leapsBefore_5 : decode cX11_leapsBefore 5 = .ok (.iconst 4, 1) := by decide +kernel
theorem dX11_leapsBefore_6 : decode cX11_leapsBefore 6 = .ok (.idiv, 1) := by decide +kernel
theorem dX11_leapsBefore_7 : decode cX11_leapsBefore 7 = .ok (.iload_n 1, 1) := by decide +kernel
theorem dX11_leapsBefore_8 : decode cX11_leapsBefore 8 = .ok (.bipush 100, 2) := by decide +kernel
theorem dX11_leapsBefore_10 : decode cX11_leapsBefore 10 = .ok (.idiv, 1) := by decide +kernel
theorem dX11_leapsBefore_11 : decode cX11_leapsBefore 11 = .ok (.isub, 1) := by decide +kernel
theorem dX11_leapsBefore_12 : decode cX11_leapsBefore 12 = .ok (.iload_n 1, 1) := by decide +kernel
theorem dX11_leapsBefore_13 : decode cX11_leapsBefore 13 = .ok (.sipush 400, 3) := by decide +kernel
theorem dX11_leapsBefore_16 : decode cX11_leapsBefore 16 = .ok (.idiv, 1) := by decide +kernel
theorem dX11_leapsBefore_17 : decode cX11_leapsBefore 17 = .ok (.iadd, 1) := by decide +kernel
theorem dX11_leapsBefore_18 : decode cX11_leapsBefore 18 = .ok (.ireturn, 1) := by decide +kernel
theorem dX11_endNow_0 : decode cX11_endNow 0 = .ok (.sipush 365, 3) := by decide +kernel
theorem dX11_endNow_3 : decode cX11_endNow 3 = .ok (.iload_n 1, 1) := by decide +kernel
theorem dX11_endNow_4 : decode cX11_endNow 4 = .ok (.iconst 1, 1) := by decide +kernel
theorem dX11_endNow_5 : decode cX11_endNow 5 = .ok (.iadd, 1) := by decide +kernel
theorem dX11_endNow_6 : decode cX11_endNow 6 = .ok (.aload_n 0, 1) := by decide +kernel
theorem dX11_endNow_7 : decode cX11_endNow 7 = .ok (.getfield 7, 3) := by decide +kernel
theorem dX11_endNow_10 : decode cX11_endNow 10 = .ok (.iconst 1, 1) := by decide +kernel
theorem dX11_endNow_11 : decode cX11_endNow 11 = .ok (.iaload, 1) := by decide +kernel
theorem dX11_endNow_12 : decode cX11_endNow 12 = .ok (.isub, 1) := by decide +kernel
theorem dX11_endNow_13 : decode cX11_endNow 13 = .ok (.imul, 1) := by decide +kernel
theorem dX11_endNow_14 : decode cX11_endNow 14 = .ok (.iload_n 1, 1) := by decide +kernel
theorem dX11_endNow_15 : decode cX11_endNow 15 = .ok (.iconst 1, 1) := by decide +kernel
theorem dX11_endNow_16 : decode cX11_endNow 16 = .ok (.iadd, 1) := by decide +kernel
theorem dX11_endNow_17 : decode cX11_endNow 17 = .ok (.invokestatic 296, 3) := by decide +kernel
theorem dX11_endNow_20 : decode cX11_endNow 20 = .ok (.iadd, 1) := by decide +kernel
theorem dX11_endNow_21 : decode cX11_endNow 21 = .ok (.aload_n 0, 1) := by decide +kernel
theorem dX11_endNow_22 : decode cX11_endNow 22 = .ok (.getfield 7, 3) := by decide +kernel
theorem dX11_endNow_25 : decode cX11_endNow 25 = .ok (.iconst 1, 1) := by decide +kernel
theorem dX11_endNow_26 : decode cX11_endNow 26 = .ok (.iaload, 1) := by decide +kernel
theorem dX11_endNow_27 : decode cX11_endNow 27 = .ok (.invokestatic 296, 3) := by decide +kernel
theorem dX11_endNow_30 : decode cX11_endNow 30 = .ok (.isub, 1) := by decide +kernel
theorem dX11_endNow_31 : decode cX11_endNow 31 = .ok (.ireturn, 1) := by decide +kernel
theorem dX11_isYear_0 : decode cX11_isYear 0 = .ok (.iload_n 1, 1) := by decide +kernel
theorem dX11_isYear_1 : decode cX11_isYear 1 = .ok (.i2l, 1) := by decide +kernel
theorem dX11_isYear_2 : decode cX11_isYear 2 = .ok (.aload_n 0, 1) := by decide +kernel
theorem dX11_isYear_3 : decode cX11_isYear 3 = .ok (.getfield 7, 3) := by decide +kernel
theorem dX11_isYear_6 : decode cX11_isYear 6 = .ok (.iconst 1, 1) := by decide +kernel
theorem dX11_isYear_7 : decode cX11_isYear 7 = .ok (.iaload, 1) := by decide +kernel
theorem dX11_isYear_8 : decode cX11_isYear 8 = .ok (.i2l, 1) := by decide +kernel
theorem dX11_isYear_9 : decode cX11_isYear 9 = .ok (.aload_n 0, 1) := by decide +kernel
theorem dX11_isYear_10 : decode cX11_isYear 10 = .ok (.getfield 7, 3) := by decide +kernel
theorem dX11_isYear_13 : decode cX11_isYear 13 = .ok (.iconst 1, 1) := by decide +kernel
theorem dX11_isYear_14 : decode cX11_isYear 14 = .ok (.iaload, 1) := by decide +kernel
theorem dX11_isYear_15 : decode cX11_isYear 15 = .ok (.sipush 1000, 3) := by decide +kernel
theorem dX11_isYear_18 : decode cX11_isYear 18 = .ok (.iadd, 1) := by decide +kernel
theorem dX11_isYear_19 : decode cX11_isYear 19 = .ok (.iconst 1, 1) := by decide +kernel
theorem dX11_isYear_20 : decode cX11_isYear 20 = .ok (.isub, 1) := by decide +kernel
theorem dX11_isYear_21 : decode cX11_isYear 21 = .ok (.i2l, 1) := by decide +kernel
theorem dX11_isYear_22 : decode cX11_isYear 22 = .ok (.invokestatic 71, 3) := by decide +kernel
theorem dX11_isYear_25 : decode cX11_isYear 25 = .ok (.ireturn, 1) := by decide +kernel
theorem dX11_errorAt_0 : decode cX11_errorAt 0 = .ok (.aload_n 0, 1) := by decide +kernel
theorem dX11_errorAt_1 : decode cX11_errorAt 1 = .ok (.iload_n 1, 1) := by decide +kernel
theorem dX11_errorAt_2 : decode cX11_errorAt 2 = .ok (.aload_n 0, 1) := by decide +kernel
theorem dX11_errorAt_3 : decode cX11_errorAt 3 = .ok (.iload_n 2, 1) := by decide +kernel
theorem dX11_errorAt_4 : decode cX11_errorAt 4 = .ok (.invokevirtual 299, 3) := by decide +kernel
theorem dX11_errorAt_7 : decode cX11_errorAt 7 = .ok (.invokevirtual 302, 3) := by decide +kernel
theorem dX11_errorAt_10 : decode cX11_errorAt 10 = .ok (.lreturn, 1) := by decide +kernel
theorem dX11_offAt_0 : decode cX11_offAt 0 = .ok (.aload_n 0, 1) := by decide +kernel
theorem dX11_offAt_1 : decode cX11_offAt 1 = .ok (.iload_n 1, 1) := by decide +kernel
theorem dX11_offAt_2 : decode cX11_offAt 2 = .ok (.iload_n 2, 1) := by decide +kernel
theorem dX11_offAt_3 : decode cX11_offAt 3 = .ok (.invokevirtual 306, 3) := by decide +kernel
theorem dX11_offAt_6 : decode cX11_offAt 6 = .ok (.invokestatic 239, 3) := by decide +kernel
theorem dX11_offAt_9 : decode cX11_offAt 9 = .ok (.lreturn, 1) := by decide +kernel
theorem dX11_noBody_0 : decode cX11_noBody 0 = .ok (.aload_n 0, 1) := by decide +kernel
theorem dX11_noBody_1 : decode cX11_noBody 1 = .ok (.iconst 0, 1) := by decide +kernel
theorem dX11_noBody_2 : decode cX11_noBody 2 = .ok (.putfield 50, 3) := by decide +kernel
theorem dX11_noBody_5 : decode cX11_noBody 5 = .ok (.aload_n 0, 1) := by decide +kernel
theorem dX11_noBody_6 : decode cX11_noBody 6 = .ok (.iload_n 1, 1) := by decide +kernel
theorem dX11_noBody_7 : decode cX11_noBody 7 = .ok (.i2l, 1) := by decide +kernel
theorem dX11_noBody_8 : decode cX11_noBody 8 = .ok (.lconst 0, 1) := by decide +kernel
theorem dX11_noBody_9 : decode cX11_noBody 9 = .ok (.aload_n 0, 1) := by decide +kernel
theorem dX11_noBody_10 : decode cX11_noBody 10 = .ok (.getfield 7, 3) := by decide +kernel
theorem dX11_noBody_13 : decode cX11_noBody 13 = .ok (.iconst 0, 1) := by decide +kernel
theorem dX11_noBody_14 : decode cX11_noBody 14 = .ok (.iaload, 1) := by decide +kernel
theorem dX11_noBody_15 : decode cX11_noBody 15 = .ok (.iconst 1, 1) := by decide +kernel
theorem dX11_noBody_16 : decode cX11_noBody 16 = .ok (.isub, 1) := by decide +kernel
theorem dX11_noBody_17 : decode cX11_noBody 17 = .ok (.i2l, 1) := by decide +kernel
theorem dX11_noBody_18 : decode cX11_noBody 18 = .ok (.invokestatic 71, 3) := by decide +kernel
theorem dX11_noBody_21 : decode cX11_noBody 21 = .ok (.ifCond .ne 7, 3) := by decide +kernel
theorem dX11_noBody_24 : decode cX11_noBody 24 = .ok (.iconst 1, 1) := by decide +kernel
theorem dX11_noBody_25 : decode cX11_noBody 25 = .ok (.goto 4, 3) := by decide +kernel
theorem dX11_noBody_28 : decode cX11_noBody 28 = .ok (.iconst 0, 1) := by decide +kernel
theorem dX11_noBody_29 : decode cX11_noBody 29 = .ok (.iconst 1, 1) := by decide +kernel
theorem dX11_noBody_30 : decode cX11_noBody 30 = .ok (.invokevirtual 309, 3) := by decide +kernel
theorem dX11_noBody_33 : decode cX11_noBody 33 = .ok (.ireturn, 1) := by decide +kernel
theorem dX11_teethOf_0 : decode cX11_teethOf 0 = .ok (.iconst 0, 1) := by decide +kernel
theorem dX11_teethOf_1 : decode cX11_teethOf 1 = .ok (.istore_n 2, 1) := by decide +kernel
theorem dX11_teethOf_2 : decode cX11_teethOf 2 = .ok (.iconst 0, 1) := by decide +kernel
theorem dX11_teethOf_3 : decode cX11_teethOf 3 = .ok (.istore_n 3, 1) := by decide +kernel
theorem dX11_teethOf_4 : decode cX11_teethOf 4 = .ok (.iload_n 3, 1) := by decide +kernel
theorem dX11_teethOf_5 : decode cX11_teethOf 5 = .ok (.aload_n 0, 1) := by decide +kernel
theorem dX11_teethOf_6 : decode cX11_teethOf 6 = .ok (.iload_n 1, 1) := by decide +kernel
theorem dX11_teethOf_7 : decode cX11_teethOf 7 = .ok (.invokevirtual 188, 3) := by decide +kernel
theorem dX11_teethOf_10 : decode cX11_teethOf 10 = .ok (.if_icmp .ge 27, 3) := by decide +kernel
theorem dX11_teethOf_13 : decode cX11_teethOf 13 = .ok (.iload_n 2, 1) := by decide +kernel
theorem dX11_teethOf_14 : decode cX11_teethOf 14 = .ok (.aload_n 0, 1) := by decide +kernel
theorem dX11_teethOf_15 : decode cX11_teethOf 15 = .ok (.iload_n 1, 1) := by decide +kernel
theorem dX11_teethOf_16 : decode cX11_teethOf 16 = .ok (.iload_n 3, 1) := by decide +kernel
theorem dX11_teethOf_17 : decode cX11_teethOf 17 = .ok (.iconst 1, 1) := by decide +kernel
theorem dX11_teethOf_18 : decode cX11_teethOf 18 = .ok (.invokevirtual 191, 3) := by decide +kernel
theorem dX11_teethOf_21 : decode cX11_teethOf 21 = .ok (.aload_n 0, 1) := by decide +kernel
theorem dX11_teethOf_22 : decode cX11_teethOf 22 = .ok (.iload_n 1, 1) := by decide +kernel
theorem dX11_teethOf_23 : decode cX11_teethOf 23 = .ok (.iload_n 3, 1) := by decide +kernel
theorem dX11_teethOf_24 : decode cX11_teethOf 24 = .ok (.iconst 2, 1) := by decide +kernel
theorem dX11_teethOf_25 : decode cX11_teethOf 25 = .ok (.invokevirtual 191, 3) := by decide +kernel
theorem dX11_teethOf_28 : decode cX11_teethOf 28 = .ok (.iadd, 1) := by decide +kernel
theorem dX11_teethOf_29 : decode cX11_teethOf 29 = .ok (.iadd, 1) := by decide +kernel
theorem dX11_teethOf_30 : decode cX11_teethOf 30 = .ok (.istore_n 2, 1) := by decide +kernel
theorem dX11_teethOf_31 : decode cX11_teethOf 31 = .ok (.iinc 3 1, 3) := by decide +kernel
theorem dX11_teethOf_34 : decode cX11_teethOf 34 = .ok (.goto (-30), 3) := by decide +kernel
theorem dX11_teethOf_37 : decode cX11_teethOf 37 = .ok (.iload_n 2, 1) := by decide +kernel
theorem dX11_teethOf_38 : decode cX11_teethOf 38 = .ok (.ireturn, 1) := by decide +kernel
theorem dX11_allTeeth_0 : decode cX11_allTeeth 0 = .ok (.iconst 0, 1) := by decide +kernel
theorem dX11_allTeeth_1 : decode cX11_allTeeth 1 = .ok (.istore_n 1, 1) := by decide +kernel
theorem dX11_allTeeth_2 : decode cX11_allTeeth 2 = .ok (.iconst 0, 1) := by decide +kernel
theorem dX11_allTeeth_3 : decode cX11_allTeeth 3 = .ok (.istore_n 2, 1) := by decide +kernel
theorem dX11_allTeeth_4 : decode cX11_allTeeth 4 = .ok (.iload_n 2, 1) := by decide +kernel
theorem dX11_allTeeth_5 : decode cX11_allTeeth 5 = .ok (.aload_n 0, 1) := by decide +kernel
theorem dX11_allTeeth_6 : decode cX11_allTeeth 6 = .ok (.getfield 7, 3) := by decide +kernel
theorem dX11_allTeeth_9 : decode cX11_allTeeth 9 = .ok (.iconst 0, 1) := by decide +kernel
theorem dX11_allTeeth_10 : decode cX11_allTeeth 10 = .ok (.iaload, 1) := by decide +kernel
theorem dX11_allTeeth_11 : decode cX11_allTeeth 11 = .ok (.if_icmp .ge 17, 3) := by decide +kernel
theorem dX11_allTeeth_14 : decode cX11_allTeeth 14 = .ok (.iload_n 1, 1) := by decide +kernel
theorem dX11_allTeeth_15 : decode cX11_allTeeth 15 = .ok (.aload_n 0, 1) := by decide +kernel
theorem dX11_allTeeth_16 : decode cX11_allTeeth 16 = .ok (.iload_n 2, 1) := by decide +kernel
theorem dX11_allTeeth_17 : decode cX11_allTeeth 17 = .ok (.invokevirtual 313, 3) := by decide +kernel
theorem dX11_allTeeth_20 : decode cX11_allTeeth 20 = .ok (.iadd, 1) := by decide +kernel
theorem dX11_allTeeth_21 : decode cX11_allTeeth 21 = .ok (.istore_n 1, 1) := by decide +kernel
theorem dX11_allTeeth_22 : decode cX11_allTeeth 22 = .ok (.iinc 2 1, 3) := by decide +kernel
theorem dX11_allTeeth_25 : decode cX11_allTeeth 25 = .ok (.goto (-21), 3) := by decide +kernel
theorem dX11_allTeeth_28 : decode cX11_allTeeth 28 = .ok (.iload_n 1, 1) := by decide +kernel
theorem dX11_allTeeth_29 : decode cX11_allTeeth 29 = .ok (.ireturn, 1) := by decide +kernel
theorem dX11_count_0 : decode cX11_count 0 = .ok (.aload_n 0, 1) := by decide +kernel
theorem dX11_count_1 : decode cX11_count 1 = .ok (.iconst 0, 1) := by decide +kernel
theorem dX11_count_2 : decode cX11_count 2 = .ok (.putfield 50, 3) := by decide +kernel
theorem dX11_count_5 : decode cX11_count 5 = .ok (.iload_n 1, 1) := by decide +kernel
theorem dX11_count_6 : decode cX11_count 6 = .ok (.tableswitch 89 0 6 #[42, 49, 56, 63, 71, 79, 84], 42) := by decide +kernel
theorem dX11_count_48 : decode cX11_count 48 = .ok (.aload_n 0, 1) := by decide +kernel
theorem dX11_count_49 : decode cX11_count 49 = .ok (.getfield 7, 3) := by decide +kernel
theorem dX11_count_52 : decode cX11_count 52 = .ok (.iconst 0, 1) := by decide +kernel
theorem dX11_count_53 : decode cX11_count 53 = .ok (.iaload, 1) := by decide +kernel
theorem dX11_count_54 : decode cX11_count 54 = .ok (.ireturn, 1) := by decide +kernel
theorem dX11_count_55 : decode cX11_count 55 = .ok (.aload_n 0, 1) := by decide +kernel
theorem dX11_count_56 : decode cX11_count 56 = .ok (.getfield 22, 3) := by decide +kernel
theorem dX11_count_59 : decode cX11_count 59 = .ok (.iconst 0, 1) := by decide +kernel
theorem dX11_count_60 : decode cX11_count 60 = .ok (.iaload, 1) := by decide +kernel
theorem dX11_count_61 : decode cX11_count 61 = .ok (.ireturn, 1) := by decide +kernel
theorem dX11_count_62 : decode cX11_count 62 = .ok (.aload_n 0, 1) := by decide +kernel
theorem dX11_count_63 : decode cX11_count 63 = .ok (.getfield 7, 3) := by decide +kernel
theorem dX11_count_66 : decode cX11_count 66 = .ok (.iconst 1, 1) := by decide +kernel
theorem dX11_count_67 : decode cX11_count 67 = .ok (.iaload, 1) := by decide +kernel
theorem dX11_count_68 : decode cX11_count 68 = .ok (.ireturn, 1) := by decide +kernel
theorem dX11_count_69 : decode cX11_count 69 = .ok (.aload_n 0, 1) := by decide +kernel
theorem dX11_count_70 : decode cX11_count 70 = .ok (.getfield 22, 3) := by decide +kernel
theorem dX11_count_73 : decode cX11_count 73 = .ok (.bipush 17, 2) := by decide +kernel
theorem dX11_count_75 : decode cX11_count 75 = .ok (.iaload, 1) := by decide +kernel
theorem dX11_count_76 : decode cX11_count 76 = .ok (.ireturn, 1) := by decide +kernel
theorem dX11_count_77 : decode cX11_count 77 = .ok (.aload_n 0, 1) := by decide +kernel
theorem dX11_count_78 : decode cX11_count 78 = .ok (.getfield 22, 3) := by decide +kernel
theorem dX11_count_81 : decode cX11_count 81 = .ok (.bipush 18, 2) := by decide +kernel
theorem dX11_count_83 : decode cX11_count 83 = .ok (.iaload, 1) := by decide +kernel
theorem dX11_count_84 : decode cX11_count 84 = .ok (.ireturn, 1) := by decide +kernel
theorem dX11_count_85 : decode cX11_count 85 = .ok (.aload_n 0, 1) := by decide +kernel
theorem dX11_count_86 : decode cX11_count 86 = .ok (.getfield 57, 3) := by decide +kernel
theorem dX11_count_89 : decode cX11_count 89 = .ok (.ireturn, 1) := by decide +kernel
theorem dX11_count_90 : decode cX11_count 90 = .ok (.aload_n 0, 1) := by decide +kernel
theorem dX11_count_91 : decode cX11_count 91 = .ok (.invokevirtual 316, 3) := by decide +kernel
theorem dX11_count_94 : decode cX11_count 94 = .ok (.ireturn, 1) := by decide +kernel
theorem dX11_count_95 : decode cX11_count 95 = .ok (.aload_n 0, 1) := by decide +kernel
theorem dX11_count_96 : decode cX11_count 96 = .ok (.iconst 1, 1) := by decide +kernel
theorem dX11_count_97 : decode cX11_count 97 = .ok (.iconst 1, 1) := by decide +kernel
theorem dX11_count_98 : decode cX11_count 98 = .ok (.invokevirtual 309, 3) := by decide +kernel
theorem dX11_count_101 : decode cX11_count 101 = .ok (.ifCond .eq 7, 3) := by decide +kernel
theorem dX11_count_104 : decode cX11_count 104 = .ok (.iconst 0, 1) := by decide +kernel
theorem dX11_count_105 : decode cX11_count 105 = .ok (.goto 4, 3) := by decide +kernel
theorem dX11_count_108 : decode cX11_count 108 = .ok (.iconst (-1), 1) := by decide +kernel
theorem dX11_count_109 : decode cX11_count 109 = .ok (.ireturn, 1) := by decide +kernel
theorem dX11_body_0 : decode cX11_body 0 = .ok (.aload_n 0, 1) := by decide +kernel
theorem dX11_body_1 : decode cX11_body 1 = .ok (.iload_n 1, 1) := by decide +kernel
theorem dX11_body_2 : decode cX11_body 2 = .ok (.invokevirtual 319, 3) := by decide +kernel
theorem dX11_body_5 : decode cX11_body 5 = .ok (.ifCond .ne 28, 3) := by decide +kernel
theorem dX11_body_8 : decode cX11_body 8 = .ok (.aload_n 0, 1) := by decide +kernel
theorem dX11_body_9 : decode cX11_body 9 = .ok (.iload_n 2, 1) := by decide +kernel
theorem dX11_body_10 : decode cX11_body 10 = .ok (.i2l, 1) := by decide +kernel
theorem dX11_body_11 : decode cX11_body 11 = .ok (.lconst 0, 1) := by decide +kernel
theorem dX11_body_12 : decode cX11_body 12 = .ok (.ldc2_w 322, 3) := by decide +kernel
theorem dX11_body_15 : decode cX11_body 15 = .ok (.invokestatic 71, 3) := by decide +kernel
theorem dX11_body_18 : decode cX11_body 18 = .ok (.ifCond .ne 7, 3) := by decide +kernel
theorem dX11_body_21 : decode cX11_body 21 = .ok (.iconst 1, 1) := by decide +kernel
theorem dX11_body_22 : decode cX11_body 22 = .ok (.goto 4, 3) := by decide +kernel
theorem dX11_body_25 : decode cX11_body 25 = .ok (.iconst 0, 1) := by decide +kernel
theorem dX11_body_26 : decode cX11_body 26 = .ok (.iconst 2, 1) := by decide +kernel
theorem dX11_body_27 : decode cX11_body 27 = .ok (.invokevirtual 309, 3) := by decide +kernel
theorem dX11_body_30 : decode cX11_body 30 = .ok (.ifCond .eq 5, 3) := by decide +kernel
theorem dX11_body_33 : decode cX11_body 33 = .ok (.iconst 0, 1) := by decide +kernel
theorem dX11_body_34 : decode cX11_body 34 = .ok (.ireturn, 1) := by decide +kernel
theorem dX11_body_35 : decode cX11_body 35 = .ok (.iload_n 2, 1) := by decide +kernel
theorem dX11_body_36 : decode cX11_body 36 = .ok (.iconst 3, 1) := by decide +kernel
theorem dX11_body_37 : decode cX11_body 37 = .ok (.if_icmp .ge 12, 3) := by decide +kernel
theorem dX11_body_40 : decode cX11_body 40 = .ok (.aload_n 0, 1) := by decide +kernel
theorem dX11_body_41 : decode cX11_body 41 = .ok (.iload_n 1, 1) := by decide +kernel
theorem dX11_body_42 : decode cX11_body 42 = .ok (.iload_n 2, 1) := by decide +kernel
theorem dX11_body_43 : decode cX11_body 43 = .ok (.invokevirtual 185, 3) := by decide +kernel
theorem dX11_body_46 : decode cX11_body 46 = .ok (.goto 34, 3) := by decide +kernel
theorem dX11_body_49 : decode cX11_body 49 = .ok (.iload_n 2, 1) := by decide +kernel
theorem dX11_body_50 : decode cX11_body 50 = .ok (.iconst 3, 1) := by decide +kernel
theorem dX11_body_51 : decode cX11_body 51 = .ok (.if_icmp .ne 11, 3) := by decide +kernel
theorem dX11_body_54 : decode cX11_body 54 = .ok (.aload_n 0, 1) := by decide +kernel
theorem dX11_body_55 : decode cX11_body 55 = .ok (.iload_n 1, 1) := by decide +kernel
theorem dX11_body_56 : decode cX11_body 56 = .ok (.invokevirtual 188, 3) := by decide +kernel
theorem dX11_body_59 : decode cX11_body 59 = .ok (.goto 21, 3) := by decide +kernel
theorem dX11_body_62 : decode cX11_body 62 = .ok (.iload_n 2, 1) := by decide +kernel
theorem dX11_body_63 : decode cX11_body 63 = .ok (.iconst 4, 1) := by decide +kernel
theorem dX11_body_64 : decode cX11_body 64 = .ok (.if_icmp .ne 11, 3) := by decide +kernel
theorem dX11_body_67 : decode cX11_body 67 = .ok (.aload_n 0, 1) := by decide +kernel
theorem dX11_body_68 : decode cX11_body 68 = .ok (.iload_n 1, 1) := by decide +kernel
theorem dX11_body_69 : decode cX11_body 69 = .ok (.invokevirtual 313, 3) := by decide +kernel
theorem dX11_body_72 : decode cX11_body 72 = .ok (.goto 8, 3) := by decide +kernel
theorem dX11_body_75 : decode cX11_body 75 = .ok (.aload_n 0, 1) := by decide +kernel
theorem dX11_body_76 : decode cX11_body 76 = .ok (.iload_n 1, 1) := by decide +kernel
theorem dX11_body_77 : decode cX11_body 77 = .ok (.invokevirtual 324, 3) := by decide +kernel
theorem dX11_body_80 : decode cX11_body 80 = .ok (.ireturn, 1) := by decide +kernel
theorem dX11_part_0 : decode cX11_part 0 = .ok (.aload_n 0, 1) := by decide +kernel
theorem dX11_part_1 : decode cX11_part 1 = .ok (.iload_n 1, 1) := by decide +kernel
theorem dX11_part_2 : decode cX11_part 2 = .ok (.invokevirtual 319, 3) := by decide +kernel
theorem dX11_part_5 : decode cX11_part 5 = .ok (.ifCond .ne 58, 3) := by decide +kernel
theorem dX11_part_8 : decode cX11_part 8 = .ok (.aload_n 0, 1) := by decide +kernel
theorem dX11_part_9 : decode cX11_part 9 = .ok (.iload_n 2, 1) := by decide +kernel
theorem dX11_part_10 : decode cX11_part 10 = .ok (.i2l, 1) := by decide +kernel
theorem dX11_part_11 : decode cX11_part 11 = .ok (.lconst 0, 1) := by decide +kernel
theorem dX11_part_12 : decode cX11_part 12 = .ok (.aload_n 0, 1) := by decide +kernel
theorem dX11_part_13 : decode cX11_part 13 = .ok (.iload_n 1, 1) := by decide +kernel
theorem dX11_part_14 : decode cX11_part 14 = .ok (.invokevirtual 188, 3) := by decide +kernel
theorem dX11_part_17 : decode cX11_part 17 = .ok (.iconst 1, 1) := by decide +kernel
theorem dX11_part_18 : decode cX11_part 18 = .ok (.isub, 1) := by decide +kernel
theorem dX11_part_19 : decode cX11_part 19 = .ok (.i2l, 1) := by decide +kernel
theorem dX11_part_20 : decode cX11_part 20 = .ok (.invokestatic 71, 3) := by decide +kernel
theorem dX11_part_23 : decode cX11_part 23 = .ok (.ifCond .ne 7, 3) := by decide +kernel
theorem dX11_part_26 : decode cX11_part 26 = .ok (.iconst 1, 1) := by decide +kernel
theorem dX11_part_27 : decode cX11_part 27 = .ok (.goto 4, 3) := by decide +kernel
theorem dX11_part_30 : decode cX11_part 30 = .ok (.iconst 0, 1) := by decide +kernel
theorem dX11_part_31 : decode cX11_part 31 = .ok (.iconst 2, 1) := by decide +kernel
theorem dX11_part_32 : decode cX11_part 32 = .ok (.invokevirtual 309, 3) := by decide +kernel
theorem dX11_part_35 : decode cX11_part 35 = .ok (.ifCond .ne 28, 3) := by decide +kernel
theorem dX11_part_38 : decode cX11_part 38 = .ok (.aload_n 0, 1) := by decide +kernel
theorem dX11_part_39 : decode cX11_part 39 = .ok (.iload_n 3, 1) := by decide +kernel
theorem dX11_part_40 : decode cX11_part 40 = .ok (.i2l, 1) := by decide +kernel
theorem dX11_part_41 : decode cX11_part 41 = .ok (.lconst 0, 1) := by decide +kernel
theorem dX11_part_42 : decode cX11_part 42 = .ok (.ldc2_w 256, 3) := by decide +kernel
theorem dX11_part_45 : decode cX11_part 45 = .ok (.invokestatic 71, 3) := by decide +kernel
theorem dX11_part_48 : decode cX11_part 48 = .ok (.ifCond .ne 7, 3) := by decide +kernel
theorem dX11_part_51 : decode cX11_part 51 = .ok (.iconst 1, 1) := by decide +kernel
theorem dX11_part_52 : decode cX11_part 52 = .ok (.goto 4, 3) := by decide +kernel
theorem dX11_part_55 : decode cX11_part 55 = .ok (.iconst 0, 1) := by decide +kernel
theorem dX11_part_56 : decode cX11_part 56 = .ok (.iconst 3, 1) := by decide +kernel
theorem dX11_part_57 : decode cX11_part 57 = .ok (.invokevirtual 309, 3) := by decide +kernel
theorem dX11_part_60 : decode cX11_part 60 = .ok (.ifCond .eq 5, 3) := by decide +kernel
theorem dX11_part_63 : decode cX11_part 63 = .ok (.iconst 0, 1) := by decide +kernel
theorem dX11_part_64 : decode cX11_part 64 = .ok (.ireturn, 1) := by decide +kernel
theorem dX11_part_65 : decode cX11_part 65 = .ok (.aload_n 0, 1) := by decide +kernel
theorem dX11_part_66 : decode cX11_part 66 = .ok (.iload_n 1, 1) := by decide +kernel
theorem dX11_part_67 : decode cX11_part 67 = .ok (.iload_n 2, 1) := by decide +kernel
theorem dX11_part_68 : decode cX11_part 68 = .ok (.iload_n 3, 1) := by decide +kernel
theorem dX11_part_69 : decode cX11_part 69 = .ok (.invokevirtual 191, 3) := by decide +kernel
theorem dX11_part_72 : decode cX11_part 72 = .ok (.ireturn, 1) := by decide +kernel
theorem dX11_stock_0 : decode cX11_stock 0 = .ok (.aload_n 0, 1) := by decide +kernel
theorem dX11_stock_1 : decode cX11_stock 1 = .ok (.iconst 0, 1) := by decide +kernel
theorem dX11_stock_2 : decode cX11_stock 2 = .ok (.putfield 50, 3) := by decide +kernel
theorem dX11_stock_5 : decode cX11_stock 5 = .ok (.aload_n 0, 1) := by decide +kernel
theorem dX11_stock_6 : decode cX11_stock 6 = .ok (.iload_n 1, 1) := by decide +kernel
theorem dX11_stock_7 : decode cX11_stock 7 = .ok (.i2l, 1) := by decide +kernel
theorem dX11_stock_8 : decode cX11_stock 8 = .ok (.lconst 0, 1) := by decide +kernel
theorem dX11_stock_9 : decode cX11_stock 9 = .ok (.aload_n 0, 1) := by decide +kernel
theorem dX11_stock_10 : decode cX11_stock 10 = .ok (.getfield 22, 3) := by decide +kernel
theorem dX11_stock_13 : decode cX11_stock 13 = .ok (.iconst 0, 1) := by decide +kernel
theorem dX11_stock_14 : decode cX11_stock 14 = .ok (.iaload, 1) := by decide +kernel
theorem dX11_stock_15 : decode cX11_stock 15 = .ok (.iconst 1, 1) := by decide +kernel
theorem dX11_stock_16 : decode cX11_stock 16 = .ok (.isub, 1) := by decide +kernel
theorem dX11_stock_17 : decode cX11_stock 17 = .ok (.i2l, 1) := by decide +kernel
theorem dX11_stock_18 : decode cX11_stock 18 = .ok (.invokestatic 71, 3) := by decide +kernel
theorem dX11_stock_21 : decode cX11_stock 21 = .ok (.ifCond .ne 7, 3) := by decide +kernel
theorem dX11_stock_24 : decode cX11_stock 24 = .ok (.iconst 1, 1) := by decide +kernel
theorem dX11_stock_25 : decode cX11_stock 25 = .ok (.goto 4, 3) := by decide +kernel
theorem dX11_stock_28 : decode cX11_stock 28 = .ok (.iconst 0, 1) := by decide +kernel
theorem dX11_stock_29 : decode cX11_stock 29 = .ok (.iconst 1, 1) := by decide +kernel
theorem dX11_stock_30 : decode cX11_stock 30 = .ok (.invokevirtual 309, 3) := by decide +kernel
theorem dX11_stock_33 : decode cX11_stock 33 = .ok (.ifCond .eq 7, 3) := by decide +kernel
theorem dX11_stock_36 : decode cX11_stock 36 = .ok (.iconst 0, 1) := by decide +kernel
theorem dX11_stock_37 : decode cX11_stock 37 = .ok (.goto 11, 3) := by decide +kernel
theorem dX11_stock_40 : decode cX11_stock 40 = .ok (.aload_n 0, 1) := by decide +kernel
theorem dX11_stock_41 : decode cX11_stock 41 = .ok (.getfield 22, 3) := by decide +kernel
theorem dX11_stock_44 : decode cX11_stock 44 = .ok (.iconst 1, 1) := by decide +kernel
theorem dX11_stock_45 : decode cX11_stock 45 = .ok (.iload_n 1, 1) := by decide +kernel
theorem dX11_stock_46 : decode cX11_stock 46 = .ok (.iadd, 1) := by decide +kernel
theorem dX11_stock_47 : decode cX11_stock 47 = .ok (.iaload, 1) := by decide +kernel
theorem dX11_stock_48 : decode cX11_stock 48 = .ok (.ireturn, 1) := by decide +kernel
theorem dX11_numerator_0 : decode cX11_numerator 0 = .ok (.aload_n 0, 1) := by decide +kernel
theorem dX11_numerator_1 : decode cX11_numerator 1 = .ok (.iload_n 1, 1) := by decide +kernel
theorem dX11_numerator_2 : decode cX11_numerator 2 = .ok (.invokevirtual 319, 3) := by decide +kernel
theorem dX11_numerator_5 : decode cX11_numerator 5 = .ok (.ifCond .eq 5, 3) := by decide +kernel
theorem dX11_numerator_8 : decode cX11_numerator 8 = .ok (.lconst 0, 1) := by decide +kernel
theorem dX11_numerator_9 : decode cX11_numerator 9 = .ok (.lreturn, 1) := by decide +kernel
theorem dX11_numerator_10 : decode cX11_numerator 10 = .ok (.aload_n 0, 1) := by decide +kernel
theorem dX11_numerator_11 : decode cX11_numerator 11 = .ok (.iload_n 1, 1) := by decide +kernel
theorem dX11_numerator_12 : decode cX11_numerator 12 = .ok (.invokevirtual 278, 3) := by decide +kernel
theorem dX11_numerator_15 : decode cX11_numerator 15 = .ok (.aload_n 0, 1) := by decide +kernel
theorem dX11_numerator_16 : decode cX11_numerator 16 = .ok (.getfield 249, 3) := by decide +kernel
theorem dX11_numerator_19 : decode cX11_numerator 19 = .ok (.lreturn, 1) := by decide +kernel
theorem dX11_denominator_0 : decode cX11_denominator 0 = .ok (.aload_n 0, 1) := by decide +kernel
theorem dX11_denominator_1 : decode cX11_denominator 1 = .ok (.iload_n 1, 1) := by decide +kernel
theorem dX11_denominator_2 : decode cX11_denominator 2 = .ok (.invokevirtual 319, 3) := by decide +kernel
theorem dX11_denominator_5 : decode cX11_denominator 5 = .ok (.ifCond .eq 5, 3) := by decide +kernel
theorem dX11_denominator_8 : decode cX11_denominator 8 = .ok (.lconst 0, 1) := by decide +kernel
theorem dX11_denominator_9 : decode cX11_denominator 9 = .ok (.lreturn, 1) := by decide +kernel
theorem dX11_denominator_10 : decode cX11_denominator 10 = .ok (.aload_n 0, 1) := by decide +kernel
theorem dX11_denominator_11 : decode cX11_denominator 11 = .ok (.iload_n 1, 1) := by decide +kernel
theorem dX11_denominator_12 : decode cX11_denominator 12 = .ok (.invokevirtual 278, 3) := by decide +kernel
theorem dX11_denominator_15 : decode cX11_denominator 15 = .ok (.aload_n 0, 1) := by decide +kernel
theorem dX11_denominator_16 : decode cX11_denominator 16 = .ok (.getfield 253, 3) := by decide +kernel
theorem dX11_denominator_19 : decode cX11_denominator 19 = .ok (.lreturn, 1) := by decide +kernel
theorem dX11_noYear_0 : decode cX11_noYear 0 = .ok (.aload_n 0, 1) := by decide +kernel
theorem dX11_noYear_1 : decode cX11_noYear 1 = .ok (.aload_n 0, 1) := by decide +kernel
theorem dX11_noYear_2 : decode cX11_noYear 2 = .ok (.iload_n 1, 1) := by decide +kernel
theorem dX11_noYear_3 : decode cX11_noYear 3 = .ok (.invokevirtual 327, 3) := by decide +kernel
theorem dX11_noYear_6 : decode cX11_noYear 6 = .ok (.ifCond .ne 7, 3) := by decide +kernel
theorem dX11_noYear_9 : decode cX11_noYear 9 = .ok (.iconst 1, 1) := by decide +kernel
theorem dX11_noYear_10 : decode cX11_noYear 10 = .ok (.goto 4, 3) := by decide +kernel
theorem dX11_noYear_13 : decode cX11_noYear 13 = .ok (.iconst 0, 1) := by decide +kernel
theorem dX11_noYear_14 : decode cX11_noYear 14 = .ok (.iload_n 2, 1) := by decide +kernel
theorem dX11_noYear_15 : decode cX11_noYear 15 = .ok (.invokevirtual 309, 3) := by decide +kernel
theorem dX11_noYear_18 : decode cX11_noYear 18 = .ok (.ireturn, 1) := by decide +kernel
theorem dX11_daysOf_0 : decode cX11_daysOf 0 = .ok (.aload_n 0, 1) := by decide +kernel
theorem dX11_daysOf_1 : decode cX11_daysOf 1 = .ok (.iconst 0, 1) := by decide +kernel
theorem dX11_daysOf_2 : decode cX11_daysOf 2 = .ok (.putfield 50, 3) := by decide +kernel
theorem dX11_daysOf_5 : decode cX11_daysOf 5 = .ok (.aload_n 0, 1) := by decide +kernel
theorem dX11_daysOf_6 : decode cX11_daysOf 6 = .ok (.iload_n 1, 1) := by decide +kernel
theorem dX11_daysOf_7 : decode cX11_daysOf 7 = .ok (.iconst 1, 1) := by decide +kernel
theorem dX11_daysOf_8 : decode cX11_daysOf 8 = .ok (.invokevirtual 330, 3) := by decide +kernel
theorem dX11_daysOf_11 : decode cX11_daysOf 11 = .ok (.ifCond .eq 7, 3) := by decide +kernel
theorem dX11_daysOf_14 : decode cX11_daysOf 14 = .ok (.iconst 0, 1) := by decide +kernel
theorem dX11_daysOf_15 : decode cX11_daysOf 15 = .ok (.goto 7, 3) := by decide +kernel
theorem dX11_daysOf_18 : decode cX11_daysOf 18 = .ok (.iload_n 1, 1) := by decide +kernel
theorem dX11_daysOf_19 : decode cX11_daysOf 19 = .ok (.invokestatic 333, 3) := by decide +kernel
theorem dX11_daysOf_22 : decode cX11_daysOf 22 = .ok (.ireturn, 1) := by decide +kernel
theorem dX11_endOf_0 : decode cX11_endOf 0 = .ok (.aload_n 0, 1) := by decide +kernel
theorem dX11_endOf_1 : decode cX11_endOf 1 = .ok (.iconst 0, 1) := by decide +kernel
theorem dX11_endOf_2 : decode cX11_endOf 2 = .ok (.putfield 50, 3) := by decide +kernel
theorem dX11_endOf_5 : decode cX11_endOf 5 = .ok (.aload_n 0, 1) := by decide +kernel
theorem dX11_endOf_6 : decode cX11_endOf 6 = .ok (.iload_n 1, 1) := by decide +kernel
theorem dX11_endOf_7 : decode cX11_endOf 7 = .ok (.iconst 1, 1) := by decide +kernel
theorem dX11_endOf_8 : decode cX11_endOf 8 = .ok (.invokevirtual 330, 3) := by decide +kernel
theorem dX11_endOf_11 : decode cX11_endOf 11 = .ok (.ifCond .eq 7, 3) := by decide +kernel
theorem dX11_endOf_14 : decode cX11_endOf 14 = .ok (.iconst 0, 1) := by decide +kernel
theorem dX11_endOf_15 : decode cX11_endOf 15 = .ok (.goto 8, 3) := by decide +kernel
theorem dX11_endOf_18 : decode cX11_endOf 18 = .ok (.aload_n 0, 1) := by decide +kernel
theorem dX11_endOf_19 : decode cX11_endOf 19 = .ok (.iload_n 1, 1) := by decide +kernel
theorem dX11_endOf_20 : decode cX11_endOf 20 = .ok (.invokevirtual 299, 3) := by decide +kernel
theorem dX11_endOf_23 : decode cX11_endOf 23 = .ok (.ireturn, 1) := by decide +kernel
theorem dX11_isDay_0 : decode cX11_isDay 0 = .ok (.iload_n 0, 1) := by decide +kernel
theorem dX11_isDay_1 : decode cX11_isDay 1 = .ok (.i2l, 1) := by decide +kernel
theorem dX11_isDay_2 : decode cX11_isDay 2 = .ok (.lconst 0, 1) := by decide +kernel
theorem dX11_isDay_3 : decode cX11_isDay 3 = .ok (.ldc2_w 336, 3) := by decide +kernel
theorem dX11_isDay_6 : decode cX11_isDay 6 = .ok (.invokestatic 71, 3) := by decide +kernel
theorem dX11_isDay_9 : decode cX11_isDay 9 = .ok (.ireturn, 1) := by decide +kernel
theorem dX11_yearOf_0 : decode cX11_yearOf 0 = .ok (.aload_n 0, 1) := by decide +kernel
theorem dX11_yearOf_1 : decode cX11_yearOf 1 = .ok (.iconst 0, 1) := by decide +kernel
theorem dX11_yearOf_2 : decode cX11_yearOf 2 = .ok (.putfield 50, 3) := by decide +kernel
theorem dX11_yearOf_5 : decode cX11_yearOf 5 = .ok (.aload_n 0, 1) := by decide +kernel
theorem dX11_yearOf_6 : decode cX11_yearOf 6 = .ok (.iload_n 1, 1) := by decide +kernel
theorem dX11_yearOf_7 : decode cX11_yearOf 7 = .ok (.invokestatic 338, 3) := by decide +kernel
theorem dX11_yearOf_10 : decode cX11_yearOf 10 = .ok (.ifCond .ne 7, 3) := by decide +kernel
theorem dX11_yearOf_13 : decode cX11_yearOf 13 = .ok (.iconst 1, 1) := by decide +kernel
theorem dX11_yearOf_14 : decode cX11_yearOf 14 = .ok (.goto 4, 3) := by decide +kernel
theorem dX11_yearOf_17 : decode cX11_yearOf 17 = .ok (.iconst 0, 1) := by decide +kernel
theorem dX11_yearOf_18 : decode cX11_yearOf 18 = .ok (.iconst 1, 1) := by decide +kernel
theorem dX11_yearOf_19 : decode cX11_yearOf 19 = .ok (.invokevirtual 309, 3) := by decide +kernel
theorem dX11_yearOf_22 : decode cX11_yearOf 22 = .ok (.ifCond .eq 5, 3) := by decide +kernel
theorem dX11_yearOf_25 : decode cX11_yearOf 25 = .ok (.iconst 0, 1) := by decide +kernel
theorem dX11_yearOf_26 : decode cX11_yearOf 26 = .ok (.ireturn, 1) := by decide +kernel
theorem dX11_yearOf_27 : decode cX11_yearOf 27 = .ok (.aload_n 0, 1) := by decide +kernel
theorem dX11_yearOf_28 : decode cX11_yearOf 28 = .ok (.getfield 7, 3) := by decide +kernel
theorem dX11_yearOf_31 : decode cX11_yearOf 31 = .ok (.iconst 1, 1) := by decide +kernel
theorem dX11_yearOf_32 : decode cX11_yearOf 32 = .ok (.iaload, 1) := by decide +kernel
theorem dX11_yearOf_33 : decode cX11_yearOf 33 = .ok (.iload_n 1, 1) := by decide +kernel
theorem dX11_yearOf_34 : decode cX11_yearOf 34 = .ok (.sipush 366, 3) := by decide +kernel
theorem dX11_yearOf_37 : decode cX11_yearOf 37 = .ok (.idiv, 1) := by decide +kernel
theorem dX11_yearOf_38 : decode cX11_yearOf 38 = .ok (.iadd, 1) := by decide +kernel
theorem dX11_yearOf_39 : decode cX11_yearOf 39 = .ok (.istore_n 2, 1) := by decide +kernel
theorem dX11_yearOf_40 : decode cX11_yearOf 40 = .ok (.aload_n 0, 1) := by decide +kernel
theorem dX11_yearOf_41 : decode cX11_yearOf 41 = .ok (.iload_n 2, 1) := by decide +kernel
theorem dX11_yearOf_42 : decode cX11_yearOf 42 = .ok (.invokevirtual 299, 3) := by decide +kernel
theorem dX11_yearOf_45 : decode cX11_yearOf 45 = .ok (.iload_n 1, 1) := by decide +kernel
theorem dX11_yearOf_46 : decode cX11_yearOf 46 = .ok (.if_icmp .gt 9, 3) := by decide +kernel
theorem dX11_yearOf_49 : decode cX11_yearOf 49 = .ok (.iinc 2 1, 3) := by decide +kernel
theorem dX11_yearOf_52 : decode cX11_yearOf 52 = .ok (.goto (-12), 3) := by decide +kernel
theorem dX11_yearOf_55 : decode cX11_yearOf 55 = .ok (.iload_n 2, 1) := by decide +kernel
theorem dX11_yearOf_56 : decode cX11_yearOf 56 = .ok (.ireturn, 1) := by decide +kernel
theorem dX11_errorBy_0 : decode cX11_errorBy 0 = .ok (.aload_n 0, 1) := by decide +kernel
theorem dX11_errorBy_1 : decode cX11_errorBy 1 = .ok (.iload_n 1, 1) := by decide +kernel
theorem dX11_errorBy_2 : decode cX11_errorBy 2 = .ok (.invokevirtual 319, 3) := by decide +kernel
theorem dX11_errorBy_5 : decode cX11_errorBy 5 = .ok (.ifCond .ne 23, 3) := by decide +kernel
theorem dX11_errorBy_8 : decode cX11_errorBy 8 = .ok (.aload_n 0, 1) := by decide +kernel
theorem dX11_errorBy_9 : decode cX11_errorBy 9 = .ok (.iload_n 2, 1) := by decide +kernel
theorem dX11_errorBy_10 : decode cX11_errorBy 10 = .ok (.invokestatic 338, 3) := by decide +kernel
theorem dX11_errorBy_13 : decode cX11_errorBy 13 = .ok (.ifCond .ne 7, 3) := by decide +kernel
theorem dX11_errorBy_16 : decode cX11_errorBy 16 = .ok (.iconst 1, 1) := by decide +kernel
theorem dX11_errorBy_17 : decode cX11_errorBy 17 = .ok (.goto 4, 3) := by decide +kernel
theorem dX11_errorBy_20 : decode cX11_errorBy 20 = .ok (.iconst 0, 1) := by decide +kernel
theorem dX11_errorBy_21 : decode cX11_errorBy 21 = .ok (.iconst 2, 1) := by decide +kernel
theorem dX11_errorBy_22 : decode cX11_errorBy 22 = .ok (.invokevirtual 309, 3) := by decide +kernel
theorem dX11_errorBy_25 : decode cX11_errorBy 25 = .ok (.ifCond .eq 7, 3) := by decide +kernel
theorem dX11_errorBy_28 : decode cX11_errorBy 28 = .ok (.lconst 0, 1) := by decide +kernel
theorem dX11_errorBy_29 : decode cX11_errorBy 29 = .ok (.goto 9, 3) := by decide +kernel
theorem dX11_errorBy_32 : decode cX11_errorBy 32 = .ok (.aload_n 0, 1) := by decide +kernel
theorem dX11_errorBy_33 : decode cX11_errorBy 33 = .ok (.iload_n 1, 1) := by decide +kernel
theorem dX11_errorBy_34 : decode cX11_errorBy 34 = .ok (.iload_n 2, 1) := by decide +kernel
theorem dX11_errorBy_35 : decode cX11_errorBy 35 = .ok (.invokevirtual 302, 3) := by decide +kernel
theorem dX11_errorBy_38 : decode cX11_errorBy 38 = .ok (.lreturn, 1) := by decide +kernel
theorem dX11_error_0 : decode cX11_error 0 = .ok (.aload_n 0, 1) := by decide +kernel
theorem dX11_error_1 : decode cX11_error 1 = .ok (.iload_n 1, 1) := by decide +kernel
theorem dX11_error_2 : decode cX11_error 2 = .ok (.invokevirtual 319, 3) := by decide +kernel
theorem dX11_error_5 : decode cX11_error 5 = .ok (.ifCond .ne 12, 3) := by decide +kernel
theorem dX11_error_8 : decode cX11_error 8 = .ok (.aload_n 0, 1) := by decide +kernel
theorem dX11_error_9 : decode cX11_error 9 = .ok (.iload_n 2, 1) := by decide +kernel
theorem dX11_error_10 : decode cX11_error 10 = .ok (.iconst 2, 1) := by decide +kernel
theorem dX11_error_11 : decode cX11_error 11 = .ok (.invokevirtual 330, 3) := by decide +kernel
theorem dX11_error_14 : decode cX11_error 14 = .ok (.ifCond .eq 7, 3) := by decide +kernel
theorem dX11_error_17 : decode cX11_error 17 = .ok (.lconst 0, 1) := by decide +kernel
theorem dX11_error_18 : decode cX11_error 18 = .ok (.goto 9, 3) := by decide +kernel
theorem dX11_error_21 : decode cX11_error 21 = .ok (.aload_n 0, 1) := by decide +kernel
theorem dX11_error_22 : decode cX11_error 22 = .ok (.iload_n 1, 1) := by decide +kernel
theorem dX11_error_23 : decode cX11_error 23 = .ok (.iload_n 2, 1) := by decide +kernel
theorem dX11_error_24 : decode cX11_error 24 = .ok (.invokevirtual 306, 3) := by decide +kernel
theorem dX11_error_27 : decode cX11_error 27 = .ok (.lreturn, 1) := by decide +kernel
theorem dX11_angle_0 : decode cX11_angle 0 = .ok (.aload_n 0, 1) := by decide +kernel
theorem dX11_angle_1 : decode cX11_angle 1 = .ok (.iload_n 1, 1) := by decide +kernel
theorem dX11_angle_2 : decode cX11_angle 2 = .ok (.invokevirtual 319, 3) := by decide +kernel
theorem dX11_angle_5 : decode cX11_angle 5 = .ok (.ifCond .ne 23, 3) := by decide +kernel
theorem dX11_angle_8 : decode cX11_angle 8 = .ok (.aload_n 0, 1) := by decide +kernel
theorem dX11_angle_9 : decode cX11_angle 9 = .ok (.iload_n 2, 1) := by decide +kernel
theorem dX11_angle_10 : decode cX11_angle 10 = .ok (.invokestatic 338, 3) := by decide +kernel
theorem dX11_angle_13 : decode cX11_angle 13 = .ok (.ifCond .ne 7, 3) := by decide +kernel
theorem dX11_angle_16 : decode cX11_angle 16 = .ok (.iconst 1, 1) := by decide +kernel
theorem dX11_angle_17 : decode cX11_angle 17 = .ok (.goto 4, 3) := by decide +kernel
theorem dX11_angle_20 : decode cX11_angle 20 = .ok (.iconst 0, 1) := by decide +kernel
theorem dX11_angle_21 : decode cX11_angle 21 = .ok (.iconst 2, 1) := by decide +kernel
theorem dX11_angle_22 : decode cX11_angle 22 = .ok (.invokevirtual 309, 3) := by decide +kernel
theorem dX11_angle_25 : decode cX11_angle 25 = .ok (.ifCond .eq 7, 3) := by decide +kernel
theorem dX11_angle_28 : decode cX11_angle 28 = .ok (.iconst 0, 1) := by decide +kernel
theorem dX11_angle_29 : decode cX11_angle 29 = .ok (.goto 9, 3) := by decide +kernel
theorem dX11_angle_32 : decode cX11_angle 32 = .ok (.aload_n 0, 1) := by decide +kernel
theorem dX11_angle_33 : decode cX11_angle 33 = .ok (.iload_n 1, 1) := by decide +kernel
theorem dX11_angle_34 : decode cX11_angle 34 = .ok (.iload_n 2, 1) := by decide +kernel
theorem dX11_angle_35 : decode cX11_angle 35 = .ok (.invokevirtual 341, 3) := by decide +kernel
theorem dX11_angle_38 : decode cX11_angle 38 = .ok (.ireturn, 1) := by decide +kernel
theorem dX11_trueAngle_0 : decode cX11_trueAngle 0 = .ok (.aload_n 0, 1) := by decide +kernel
theorem dX11_trueAngle_1 : decode cX11_trueAngle 1 = .ok (.iload_n 1, 1) := by decide +kernel
theorem dX11_trueAngle_2 : decode cX11_trueAngle 2 = .ok (.invokevirtual 319, 3) := by decide +kernel
theorem dX11_trueAngle_5 : decode cX11_trueAngle 5 = .ok (.ifCond .ne 23, 3) := by decide +kernel
theorem dX11_trueAngle_8 : decode cX11_trueAngle 8 = .ok (.aload_n 0, 1) := by decide +kernel
theorem dX11_trueAngle_9 : decode cX11_trueAngle 9 = .ok (.iload_n 2, 1) := by decide +kernel
theorem dX11_trueAngle_10 : decode cX11_trueAngle 10 = .ok (.invokestatic 338, 3) := by decide +kernel
theorem dX11_trueAngle_13 : decode cX11_trueAngle 13 = .ok (.ifCond .ne 7, 3) := by decide +kernel
theorem dX11_trueAngle_16 : decode cX11_trueAngle 16 = .ok (.iconst 1, 1) := by decide +kernel
theorem dX11_trueAngle_17 : decode cX11_trueAngle 17 = .ok (.goto 4, 3) := by decide +kernel
theorem dX11_trueAngle_20 : decode cX11_trueAngle 20 = .ok (.iconst 0, 1) := by decide +kernel
theorem dX11_trueAngle_21 : decode cX11_trueAngle 21 = .ok (.iconst 2, 1) := by decide +kernel
theorem dX11_trueAngle_22 : decode cX11_trueAngle 22 = .ok (.invokevirtual 309, 3) := by decide +kernel
theorem dX11_trueAngle_25 : decode cX11_trueAngle 25 = .ok (.ifCond .eq 5, 3) := by decide +kernel
theorem dX11_trueAngle_28 : decode cX11_trueAngle 28 = .ok (.iconst 0, 1) := by decide +kernel
theorem dX11_trueAngle_29 : decode cX11_trueAngle 29 = .ok (.ireturn, 1) := by decide +kernel
theorem dX11_trueAngle_30 : decode cX11_trueAngle 30 = .ok (.aload_n 0, 1) := by decide +kernel
theorem dX11_trueAngle_31 : decode cX11_trueAngle 31 = .ok (.iload_n 1, 1) := by decide +kernel
theorem dX11_trueAngle_32 : decode cX11_trueAngle 32 = .ok (.invokevirtual 275, 3) := by decide +kernel
theorem dX11_trueAngle_35 : decode cX11_trueAngle 35 = .ok (.aload_n 0, 1) := by decide +kernel
theorem dX11_trueAngle_36 : decode cX11_trueAngle 36 = .ok (.iload_n 2, 1) := by decide +kernel
theorem dX11_trueAngle_37 : decode cX11_trueAngle 37 = .ok (.invokevirtual 290, 3) := by decide +kernel
theorem dX11_trueAngle_40 : decode cX11_trueAngle 40 = .ok (.ireturn, 1) := by decide +kernel
theorem dX11_isAhead_0 : decode cX11_isAhead 0 = .ok (.aload_n 0, 1) := by decide +kernel
theorem dX11_isAhead_1 : decode cX11_isAhead 1 = .ok (.iload_n 1, 1) := by decide +kernel
theorem dX11_isAhead_2 : decode cX11_isAhead 2 = .ok (.iload_n 3, 1) := by decide +kernel
theorem dX11_isAhead_3 : decode cX11_isAhead 3 = .ok (.invokevirtual 344, 3) := by decide +kernel
theorem dX11_isAhead_6 : decode cX11_isAhead 6 = .ok (.lstore 4, 2) := by decide +kernel
theorem dX11_isAhead_8 : decode cX11_isAhead 8 = .ok (.aload_n 0, 1) := by decide +kernel
theorem dX11_isAhead_9 : decode cX11_isAhead 9 = .ok (.iload_n 2, 1) := by decide +kernel
theorem dX11_isAhead_10 : decode cX11_isAhead 10 = .ok (.iload_n 3, 1) := by decide +kernel
theorem dX11_isAhead_11 : decode cX11_isAhead 11 = .ok (.invokevirtual 344, 3) := by decide +kernel
theorem dX11_isAhead_14 : decode cX11_isAhead 14 = .ok (.lstore 6, 2) := by decide +kernel
theorem dX11_isAhead_16 : decode cX11_isAhead 16 = .ok (.lload 4, 2) := by decide +kernel
theorem dX11_isAhead_18 : decode cX11_isAhead 18 = .ok (.lload 6, 2) := by decide +kernel
theorem dX11_isAhead_20 : decode cX11_isAhead 20 = .ok (.lcmp, 1) := by decide +kernel
theorem dX11_isAhead_21 : decode cX11_isAhead 21 = .ok (.ifCond .lt 16, 3) := by decide +kernel
theorem dX11_isAhead_24 : decode cX11_isAhead 24 = .ok (.lload 4, 2) := by decide +kernel
theorem dX11_isAhead_26 : decode cX11_isAhead 26 = .ok (.lload 6, 2) := by decide +kernel
theorem dX11_isAhead_28 : decode cX11_isAhead 28 = .ok (.lcmp, 1) := by decide +kernel
theorem dX11_isAhead_29 : decode cX11_isAhead 29 = .ok (.ifCond .ne 12, 3) := by decide +kernel
theorem dX11_isAhead_32 : decode cX11_isAhead 32 = .ok (.iload_n 1, 1) := by decide +kernel
theorem dX11_isAhead_33 : decode cX11_isAhead 33 = .ok (.iload_n 2, 1) := by decide +kernel
theorem dX11_isAhead_34 : decode cX11_isAhead 34 = .ok (.if_icmp .ge 7, 3) := by decide +kernel
theorem dX11_isAhead_37 : decode cX11_isAhead 37 = .ok (.iconst 1, 1) := by decide +kernel
theorem dX11_isAhead_38 : decode cX11_isAhead 38 = .ok (.goto 4, 3) := by decide +kernel
theorem dX11_isAhead_41 : decode cX11_isAhead 41 = .ok (.iconst 0, 1) := by decide +kernel
theorem dX11_isAhead_42 : decode cX11_isAhead 42 = .ok (.ireturn, 1) := by decide +kernel
theorem dX11_worst_0 : decode cX11_worst 0 = .ok (.aload_n 0, 1) := by decide +kernel
theorem dX11_worst_1 : decode cX11_worst 1 = .ok (.iconst 0, 1) := by decide +kernel
theorem dX11_worst_2 : decode cX11_worst 2 = .ok (.putfield 50, 3) := by decide +kernel
theorem dX11_worst_5 : decode cX11_worst 5 = .ok (.aload_n 0, 1) := by decide +kernel
theorem dX11_worst_6 : decode cX11_worst 6 = .ok (.iload_n 1, 1) := by decide +kernel
theorem dX11_worst_7 : decode cX11_worst 7 = .ok (.iconst 1, 1) := by decide +kernel
theorem dX11_worst_8 : decode cX11_worst 8 = .ok (.invokevirtual 330, 3) := by decide +kernel
theorem dX11_worst_11 : decode cX11_worst 11 = .ok (.ifCond .eq 5, 3) := by decide +kernel
theorem dX11_worst_14 : decode cX11_worst 14 = .ok (.iconst 0, 1) := by decide +kernel
theorem dX11_worst_15 : decode cX11_worst 15 = .ok (.ireturn, 1) := by decide +kernel
theorem dX11_worst_16 : decode cX11_worst 16 = .ok (.iconst (-1), 1) := by decide +kernel
theorem dX11_worst_17 : decode cX11_worst 17 = .ok (.istore_n 2, 1) := by decide +kernel
theorem dX11_worst_18 : decode cX11_worst 18 = .ok (.ldc2_w 347, 3) := by decide +kernel
theorem dX11_worst_21 : decode cX11_worst 21 = .ok (.lstore_n 3, 1) := by decide +kernel
theorem dX11_worst_22 : decode cX11_worst 22 = .ok (.iconst 0, 1) := by decide +kernel
theorem dX11_worst_23 : decode cX11_worst 23 = .ok (.istore 5, 2) := by decide +kernel
theorem dX11_worst_25 : decode cX11_worst 25 = .ok (.iload 5, 2) := by decide +kernel
theorem dX11_worst_27 : decode cX11_worst 27 = .ok (.aload_n 0, 1) := by decide +kernel
theorem dX11_worst_28 : decode cX11_worst 28 = .ok (.getfield 7, 3) := by decide +kernel
theorem dX11_worst_31 : decode cX11_worst 31 = .ok (.iconst 0, 1) := by decide +kernel
theorem dX11_worst_32 : decode cX11_worst 32 = .ok (.iaload, 1) := by decide +kernel
theorem dX11_worst_33 : decode cX11_worst 33 = .ok (.if_icmp .ge 34, 3) := by decide +kernel
theorem dX11_worst_36 : decode cX11_worst 36 = .ok (.aload_n 0, 1) := by decide +kernel
theorem dX11_worst_37 : decode cX11_worst 37 = .ok (.iload 5, 2) := by decide +kernel
theorem dX11_worst_39 : decode cX11_worst 39 = .ok (.iload_n 1, 1) := by decide +kernel
theorem dX11_worst_40 : decode cX11_worst 40 = .ok (.invokevirtual 344, 3) := by decide +kernel
theorem dX11_worst_43 : decode cX11_worst 43 = .ok (.lstore 6, 2) := by decide +kernel
theorem dX11_worst_45 : decode cX11_worst 45 = .ok (.lload 6, 2) := by decide +kernel
theorem dX11_worst_47 : decode cX11_worst 47 = .ok (.lload_n 3, 1) := by decide +kernel
theorem dX11_worst_48 : decode cX11_worst 48 = .ok (.lcmp, 1) := by decide +kernel
theorem dX11_worst_49 : decode cX11_worst 49 = .ok (.ifCond .gt 6, 3) := by decide +kernel
theorem dX11_worst_52 : decode cX11_worst 52 = .ok (.goto 9, 3) := by decide +kernel
theorem dX11_worst_55 : decode cX11_worst 55 = .ok (.iload 5, 2) := by decide +kernel
theorem dX11_worst_57 : decode cX11_worst 57 = .ok (.istore_n 2, 1) := by decide +kernel
theorem dX11_worst_58 : decode cX11_worst 58 = .ok (.lload 6, 2) := by decide +kernel
theorem dX11_worst_60 : decode cX11_worst 60 = .ok (.lstore_n 3, 1) := by decide +kernel
theorem dX11_worst_61 : decode cX11_worst 61 = .ok (.iinc 5 1, 3) := by decide +kernel
theorem dX11_worst_64 : decode cX11_worst 64 = .ok (.goto (-39), 3) := by decide +kernel
theorem dX11_worst_67 : decode cX11_worst 67 = .ok (.iload_n 2, 1) := by decide +kernel
theorem dX11_worst_68 : decode cX11_worst 68 = .ok (.ireturn, 1) := by decide +kernel
theorem dX11_ranked_0 : decode cX11_ranked 0 = .ok (.aload_n 0, 1) := by decide +kernel
theorem dX11_ranked_1 : decode cX11_ranked 1 = .ok (.iconst 0, 1) := by decide +kernel
theorem dX11_ranked_2 : decode cX11_ranked 2 = .ok (.putfield 50, 3) := by decide +kernel
theorem dX11_ranked_5 : decode cX11_ranked 5 = .ok (.aload_n 0, 1) := by decide +kernel
theorem dX11_ranked_6 : decode cX11_ranked 6 = .ok (.iload_n 1, 1) := by decide +kernel
theorem dX11_ranked_7 : decode cX11_ranked 7 = .ok (.iconst 1, 1) := by decide +kernel
theorem dX11_ranked_8 : decode cX11_ranked 8 = .ok (.invokevirtual 330, 3) := by decide +kernel
theorem dX11_ranked_11 : decode cX11_ranked 11 = .ok (.ifCond .ne 34, 3) := by decide +kernel
theorem dX11_ranked_14 : decode cX11_ranked 14 = .ok (.aload_n 0, 1) := by decide +kernel
theorem dX11_ranked_15 : decode cX11_ranked 15 = .ok (.iload_n 2, 1) := by decide +kernel
theorem dX11_ranked_16 : decode cX11_ranked 16 = .ok (.i2l, 1) := by decide +kernel
theorem dX11_ranked_17 : decode cX11_ranked 17 = .ok (.lconst 0, 1) := by decide +kernel
theorem dX11_ranked_18 : decode cX11_ranked 18 = .ok (.aload_n 0, 1) := by decide +kernel
theorem dX11_ranked_19 : decode cX11_ranked 19 = .ok (.getfield 7, 3) := by decide +kernel
theorem dX11_ranked_22 : decode cX11_ranked 22 = .ok (.iconst 0, 1) := by decide +kernel
theorem dX11_ranked_23 : decode cX11_ranked 23 = .ok (.iaload, 1) := by decide +kernel
theorem dX11_ranked_24 : decode cX11_ranked 24 = .ok (.iconst 1, 1) := by decide +kernel
theorem dX11_ranked_25 : decode cX11_ranked 25 = .ok (.isub, 1) := by decide +kernel
theorem dX11_ranked_26 : decode cX11_ranked 26 = .ok (.i2l, 1) := by decide +kernel
theorem dX11_ranked_27 : decode cX11_ranked 27 = .ok (.invokestatic 71, 3) := by decide +kernel
theorem dX11_ranked_30 : decode cX11_ranked 30 = .ok (.ifCond .ne 7, 3) := by decide +kernel
theorem dX11_ranked_33 : decode cX11_ranked 33 = .ok (.iconst 1, 1) := by decide +kernel
theorem dX11_ranked_34 : decode cX11_ranked 34 = .ok (.goto 4, 3) := by decide +kernel
theorem dX11_ranked_37 : decode cX11_ranked 37 = .ok (.iconst 0, 1) := by decide +kernel
theorem dX11_ranked_38 : decode cX11_ranked 38 = .ok (.iconst 2, 1) := by decide +kernel
theorem dX11_ranked_39 : decode cX11_ranked 39 = .ok (.invokevirtual 309, 3) := by decide +kernel
theorem dX11_ranked_42 : decode cX11_ranked 42 = .ok (.ifCond .eq 5, 3) := by decide +kernel
theorem dX11_ranked_45 : decode cX11_ranked 45 = .ok (.iconst 0, 1) := by decide +kernel
theorem dX11_ranked_46 : decode cX11_ranked 46 = .ok (.ireturn, 1) := by decide +kernel
theorem dX11_ranked_47 : decode cX11_ranked 47 = .ok (.iconst 0, 1) := by decide +kernel
theorem dX11_ranked_48 : decode cX11_ranked 48 = .ok (.istore_n 3, 1) := by decide +kernel
theorem dX11_ranked_49 : decode cX11_ranked 49 = .ok (.iload_n 3, 1) := by decide +kernel
theorem dX11_ranked_50 : decode cX11_ranked 50 = .ok (.aload_n 0, 1) := by decide +kernel
theorem dX11_ranked_51 : decode cX11_ranked 51 = .ok (.getfield 7, 3) := by decide +kernel
theorem dX11_ranked_54 : decode cX11_ranked 54 = .ok (.iconst 0, 1) := by decide +kernel
theorem dX11_ranked_55 : decode cX11_ranked 55 = .ok (.iaload, 1) := by decide +kernel
theorem dX11_ranked_56 : decode cX11_ranked 56 = .ok (.if_icmp .ge 67, 3) := by decide +kernel
theorem dX11_ranked_59 : decode cX11_ranked 59 = .ok (.iconst 0, 1) := by decide +kernel
theorem dX11_ranked_60 : decode cX11_ranked 60 = .ok (.istore 4, 2) := by decide +kernel
theorem dX11_ranked_62 : decode cX11_ranked 62 = .ok (.iconst 0, 1) := by decide +kernel
theorem dX11_ranked_63 : decode cX11_ranked 63 = .ok (.istore 5, 2) := by decide +kernel
theorem dX11_ranked_65 : decode cX11_ranked 65 = .ok (.iload 5, 2) := by decide +kernel
theorem dX11_ranked_67 : decode cX11_ranked 67 = .ok (.aload_n 0, 1) := by decide +kernel
theorem dX11_ranked_68 : decode cX11_ranked 68 = .ok (.getfield 7, 3) := by decide +kernel
theorem dX11_ranked_71 : decode cX11_ranked 71 = .ok (.iconst 0, 1) := by decide +kernel
theorem dX11_ranked_72 : decode cX11_ranked 72 = .ok (.iaload, 1) := by decide +kernel
theorem dX11_ranked_73 : decode cX11_ranked 73 = .ok (.if_icmp .ge 36, 3) := by decide +kernel
theorem dX11_ranked_76 : decode cX11_ranked 76 = .ok (.iload 4, 2) := by decide +kernel
theorem dX11_ranked_78 : decode cX11_ranked 78 = .ok (.iload 5, 2) := by decide +kernel
theorem dX11_ranked_80 : decode cX11_ranked 80 = .ok (.iload_n 3, 1) := by decide +kernel
theorem dX11_ranked_81 : decode cX11_ranked 81 = .ok (.if_icmp .eq 18, 3) := by decide +kernel
theorem dX11_ranked_84 : decode cX11_ranked 84 = .ok (.aload_n 0, 1) := by decide +kernel
theorem dX11_ranked_85 : decode cX11_ranked 85 = .ok (.iload 5, 2) := by decide +kernel
theorem dX11_ranked_87 : decode cX11_ranked 87 = .ok (.iload_n 3, 1) := by decide +kernel
theorem dX11_ranked_88 : decode cX11_ranked 88 = .ok (.iload_n 1, 1) := by decide +kernel
theorem dX11_ranked_89 : decode cX11_ranked 89 = .ok (.invokevirtual 349, 3) := by decide +kernel
theorem dX11_ranked_92 : decode cX11_ranked 92 = .ok (.ifCond .eq 7, 3) := by decide +kernel
theorem dX11_ranked_95 : decode cX11_ranked 95 = .ok (.iconst 1, 1) := by decide +kernel
theorem dX11_ranked_96 : decode cX11_ranked 96 = .ok (.goto 4, 3) := by decide +kernel
theorem dX11_ranked_99 : decode cX11_ranked 99 = .ok (.iconst 0, 1) := by decide +kernel
theorem dX11_ranked_100 : decode cX11_ranked 100 = .ok (.iadd, 1) := by decide +kernel
theorem dX11_ranked_101 : decode cX11_ranked 101 = .ok (.istore 4, 2) := by decide +kernel
theorem dX11_ranked_103 : decode cX11_ranked 103 = .ok (.iinc 5 1, 3) := by decide +kernel
theorem dX11_ranked_106 : decode cX11_ranked 106 = .ok (.goto (-41), 3) := by decide +kernel
theorem dX11_ranked_109 : decode cX11_ranked 109 = .ok (.iload 4, 2) := by decide +kernel
theorem dX11_ranked_111 : decode cX11_ranked 111 = .ok (.iload_n 2, 1) := by decide +kernel
theorem dX11_ranked_112 : decode cX11_ranked 112 = .ok (.if_icmp .ne 5, 3) := by decide +kernel
theorem dX11_ranked_115 : decode cX11_ranked 115 = .ok (.iload_n 3, 1) := by decide +kernel
theorem dX11_ranked_116 : decode cX11_ranked 116 = .ok (.ireturn, 1) := by decide +kernel
theorem dX11_ranked_117 : decode cX11_ranked 117 = .ok (.iinc 3 1, 3) := by decide +kernel
theorem dX11_ranked_120 : decode cX11_ranked 120 = .ok (.goto (-71), 3) := by decide +kernel
theorem dX11_ranked_123 : decode cX11_ranked 123 = .ok (.iconst 0, 1) := by decide +kernel
theorem dX11_ranked_124 : decode cX11_ranked 124 = .ok (.ireturn, 1) := by decide +kernel
theorem dX11_firstBeyond_0 : decode cX11_firstBeyond 0 = .ok (.aload_n 0, 1) := by decide +kernel
theorem dX11_firstBeyond_1 : decode cX11_firstBeyond 1 = .ok (.iload_n 1, 1) := by decide +kernel
theorem dX11_firstBeyond_2 : decode cX11_firstBeyond 2 = .ok (.invokevirtual 319, 3) := by decide +kernel
theorem dX11_firstBeyond_5 : decode cX11_firstBeyond 5 = .ok (.ifCond .ne 28, 3) := by decide +kernel
theorem dX11_firstBeyond_8 : decode cX11_firstBeyond 8 = .ok (.aload_n 0, 1) := by decide +kernel
theorem dX11_firstBeyond_9 : decode cX11_firstBeyond 9 = .ok (.iload_n 2, 1) := by decide +kernel
theorem dX11_firstBeyond_10 : decode cX11_firstBeyond 10 = .ok (.i2l, 1) := by decide +kernel
theorem dX11_firstBeyond_11 : decode cX11_firstBeyond 11 = .ok (.lconst 0, 1) := by decide +kernel
theorem dX11_firstBeyond_12 : decode cX11_firstBeyond 12 = .ok (.ldc2_w 353, 3) := by decide +kernel
theorem dX11_firstBeyond_15 : decode cX11_firstBeyond 15 = .ok (.invokestatic 71, 3) := by decide +kernel
theorem dX11_firstBeyond_18 : decode cX11_firstBeyond 18 = .ok (.ifCond .ne 7, 3) := by decide +kernel
theorem dX11_firstBeyond_21 : decode cX11_firstBeyond 21 = .ok (.iconst 1, 1) := by decide +kernel
theorem dX11_firstBeyond_22 : decode cX11_firstBeyond 22 = .ok (.goto 4, 3) := by decide +kernel
theorem dX11_firstBeyond_25 : decode cX11_firstBeyond 25 = .ok (.iconst 0, 1) := by decide +kernel
theorem dX11_firstBeyond_26 : decode cX11_firstBeyond 26 = .ok (.iconst 2, 1) := by decide +kernel
theorem dX11_firstBeyond_27 : decode cX11_firstBeyond 27 = .ok (.invokevirtual 309, 3) := by decide +kernel
theorem dX11_firstBeyond_30 : decode cX11_firstBeyond 30 = .ok (.ifCond .eq 5, 3) := by decide +kernel
theorem dX11_firstBeyond_33 : decode cX11_firstBeyond 33 = .ok (.iconst 0, 1) := by decide +kernel
theorem dX11_firstBeyond_34 : decode cX11_firstBeyond 34 = .ok (.ireturn, 1) := by decide +kernel
theorem dX11_firstBeyond_35 : decode cX11_firstBeyond 35 = .ok (.aload_n 0, 1) := by decide +kernel
theorem dX11_firstBeyond_36 : decode cX11_firstBeyond 36 = .ok (.getfield 7, 3) := by decide +kernel
theorem dX11_firstBeyond_39 : decode cX11_firstBeyond 39 = .ok (.iconst 1, 1) := by decide +kernel
theorem dX11_firstBeyond_40 : decode cX11_firstBeyond 40 = .ok (.iaload, 1) := by decide +kernel
theorem dX11_firstBeyond_41 : decode cX11_firstBeyond 41 = .ok (.istore_n 3, 1) := by decide +kernel
theorem dX11_firstBeyond_42 : decode cX11_firstBeyond 42 = .ok (.iload_n 3, 1) := by decide +kernel
theorem dX11_firstBeyond_43 : decode cX11_firstBeyond 43 = .ok (.aload_n 0, 1) := by decide +kernel
theorem dX11_firstBeyond_44 : decode cX11_firstBeyond 44 = .ok (.getfield 7, 3) := by decide +kernel
theorem dX11_firstBeyond_47 : decode cX11_firstBeyond 47 = .ok (.iconst 1, 1) := by decide +kernel
theorem dX11_firstBeyond_48 : decode cX11_firstBeyond 48 = .ok (.iaload, 1) := by decide +kernel
theorem dX11_firstBeyond_49 : decode cX11_firstBeyond 49 = .ok (.sipush 1000, 3) := by decide +kernel
theorem dX11_firstBeyond_52 : decode cX11_firstBeyond 52 = .ok (.iadd, 1) := by decide +kernel
theorem dX11_firstBeyond_53 : decode cX11_firstBeyond 53 = .ok (.if_icmp .ge 23, 3) := by decide +kernel
theorem dX11_firstBeyond_56 : decode cX11_firstBeyond 56 = .ok (.aload_n 0, 1) := by decide +kernel
theorem dX11_firstBeyond_57 : decode cX11_firstBeyond 57 = .ok (.iload_n 1, 1) := by decide +kernel
theorem dX11_firstBeyond_58 : decode cX11_firstBeyond 58 = .ok (.iload_n 3, 1) := by decide +kernel
theorem dX11_firstBeyond_59 : decode cX11_firstBeyond 59 = .ok (.invokevirtual 344, 3) := by decide +kernel
theorem dX11_firstBeyond_62 : decode cX11_firstBeyond 62 = .ok (.iload_n 2, 1) := by decide +kernel
theorem dX11_firstBeyond_63 : decode cX11_firstBeyond 63 = .ok (.i2l, 1) := by decide +kernel
theorem dX11_firstBeyond_64 : decode cX11_firstBeyond 64 = .ok (.lcmp, 1) := by decide +kernel
theorem dX11_firstBeyond_65 : decode cX11_firstBeyond 65 = .ok (.ifCond .le 5, 3) := by decide +kernel
theorem dX11_firstBeyond_68 : decode cX11_firstBeyond 68 = .ok (.iload_n 3, 1) := by decide +kernel
theorem dX11_firstBeyond_69 : decode cX11_firstBeyond 69 = .ok (.ireturn, 1) := by decide +kernel
theorem dX11_firstBeyond_70 : decode cX11_firstBeyond 70 = .ok (.iinc 3 1, 3) := by decide +kernel
theorem dX11_firstBeyond_73 : decode cX11_firstBeyond 73 = .ok (.goto (-31), 3) := by decide +kernel
theorem dX11_firstBeyond_76 : decode cX11_firstBeyond 76 = .ok (.iconst (-1), 1) := by decide +kernel
theorem dX11_firstBeyond_77 : decode cX11_firstBeyond 77 = .ok (.ireturn, 1) := by decide +kernel
theorem dX11_totalError_0 : decode cX11_totalError 0 = .ok (.aload_n 0, 1) := by decide +kernel
theorem dX11_totalError_1 : decode cX11_totalError 1 = .ok (.iconst 0, 1) := by decide +kernel
theorem dX11_totalError_2 : decode cX11_totalError 2 = .ok (.putfield 50, 3) := by decide +kernel
theorem dX11_totalError_5 : decode cX11_totalError 5 = .ok (.aload_n 0, 1) := by decide +kernel
theorem dX11_totalError_6 : decode cX11_totalError 6 = .ok (.iload_n 1, 1) := by decide +kernel
theorem dX11_totalError_7 : decode cX11_totalError 7 = .ok (.iconst 1, 1) := by decide +kernel
theorem dX11_totalError_8 : decode cX11_totalError 8 = .ok (.invokevirtual 330, 3) := by decide +kernel
theorem dX11_totalError_11 : decode cX11_totalError 11 = .ok (.ifCond .eq 5, 3) := by decide +kernel
theorem dX11_totalError_14 : decode cX11_totalError 14 = .ok (.lconst 0, 1) := by decide +kernel
theorem dX11_totalError_15 : decode cX11_totalError 15 = .ok (.lreturn, 1) := by decide +kernel
theorem dX11_totalError_16 : decode cX11_totalError 16 = .ok (.lconst 0, 1) := by decide +kernel
theorem dX11_totalError_17 : decode cX11_totalError 17 = .ok (.lstore_n 2, 1) := by decide +kernel
theorem dX11_totalError_18 : decode cX11_totalError 18 = .ok (.iconst 0, 1) := by decide +kernel
theorem dX11_totalError_19 : decode cX11_totalError 19 = .ok (.istore 4, 2) := by decide +kernel
theorem dX11_totalError_21 : decode cX11_totalError 21 = .ok (.iload 4, 2) := by decide +kernel
theorem dX11_totalError_23 : decode cX11_totalError 23 = .ok (.aload_n 0, 1) := by decide +kernel
theorem dX11_totalError_24 : decode cX11_totalError 24 = .ok (.getfield 7, 3) := by decide +kernel
theorem dX11_totalError_27 : decode cX11_totalError 27 = .ok (.iconst 0, 1) := by decide +kernel
theorem dX11_totalError_28 : decode cX11_totalError 28 = .ok (.iaload, 1) := by decide +kernel
theorem dX11_totalError_29 : decode cX11_totalError 29 = .ok (.if_icmp .ge 19, 3) := by decide +kernel
theorem dX11_totalError_32 : decode cX11_totalError 32 = .ok (.lload_n 2, 1) := by decide +kernel
theorem dX11_totalError_33 : decode cX11_totalError 33 = .ok (.aload_n 0, 1) := by decide +kernel
theorem dX11_totalError_34 : decode cX11_totalError 34 = .ok (.iload 4, 2) := by decide +kernel
theorem dX11_totalError_36 : decode cX11_totalError 36 = .ok (.iload_n 1, 1) := by decide +kernel
theorem dX11_totalError_37 : decode cX11_totalError 37 = .ok (.invokevirtual 344, 3) := by decide +kernel
theorem dX11_totalError_40 : decode cX11_totalError 40 = .ok (.ladd, 1) := by decide +kernel
theorem dX11_totalError_41 : decode cX11_totalError 41 = .ok (.lstore_n 2, 1) := by decide +kernel
theorem dX11_totalError_42 : decode cX11_totalError 42 = .ok (.iinc 4 1, 3) := by decide +kernel
theorem dX11_totalError_45 : decode cX11_totalError 45 = .ok (.goto (-24), 3) := by decide +kernel
theorem dX11_totalError_48 : decode cX11_totalError 48 = .ok (.lload_n 2, 1) := by decide +kernel
theorem dX11_totalError_49 : decode cX11_totalError 49 = .ok (.lreturn, 1) := by decide +kernel
theorem dX11_growth_0 : decode cX11_growth 0 = .ok (.aload_n 0, 1) := by decide +kernel
theorem dX11_growth_1 : decode cX11_growth 1 = .ok (.iload_n 1, 1) := by decide +kernel
theorem dX11_growth_2 : decode cX11_growth 2 = .ok (.invokevirtual 319, 3) := by decide +kernel
theorem dX11_growth_5 : decode cX11_growth 5 = .ok (.ifCond .ne 37, 3) := by decide +kernel
theorem dX11_growth_8 : decode cX11_growth 8 = .ok (.aload_n 0, 1) := by decide +kernel
theorem dX11_growth_9 : decode cX11_growth 9 = .ok (.aload_n 0, 1) := by decide +kernel
theorem dX11_growth_10 : decode cX11_growth 10 = .ok (.iload_n 2, 1) := by decide +kernel
theorem dX11_growth_11 : decode cX11_growth 11 = .ok (.invokevirtual 327, 3) := by decide +kernel
theorem dX11_growth_14 : decode cX11_growth 14 = .ok (.ifCond .eq 16, 3) := by decide +kernel
theorem dX11_growth_17 : decode cX11_growth 17 = .ok (.aload_n 0, 1) := by decide +kernel
theorem dX11_growth_18 : decode cX11_growth 18 = .ok (.iload_n 3, 1) := by decide +kernel
theorem dX11_growth_19 : decode cX11_growth 19 = .ok (.invokevirtual 327, 3) := by decide +kernel
theorem dX11_growth_22 : decode cX11_growth 22 = .ok (.ifCond .eq 8, 3) := by decide +kernel
theorem dX11_growth_25 : decode cX11_growth 25 = .ok (.iload_n 3, 1) := by decide +kernel
theorem dX11_growth_26 : decode cX11_growth 26 = .ok (.iload_n 2, 1) := by decide +kernel
theorem dX11_growth_27 : decode cX11_growth 27 = .ok (.if_icmp .gt 7, 3) := by decide +kernel
theorem dX11_growth_30 : decode cX11_growth 30 = .ok (.iconst 1, 1) := by decide +kernel
theorem dX11_growth_31 : decode cX11_growth 31 = .ok (.goto 4, 3) := by decide +kernel
theorem dX11_growth_34 : decode cX11_growth 34 = .ok (.iconst 0, 1) := by decide +kernel
theorem dX11_growth_35 : decode cX11_growth 35 = .ok (.iconst 2, 1) := by decide +kernel
theorem dX11_growth_36 : decode cX11_growth 36 = .ok (.invokevirtual 309, 3) := by decide +kernel
theorem dX11_growth_39 : decode cX11_growth 39 = .ok (.ifCond .eq 5, 3) := by decide +kernel
theorem dX11_growth_42 : decode cX11_growth 42 = .ok (.lconst 0, 1) := by decide +kernel
theorem dX11_growth_43 : decode cX11_growth 43 = .ok (.lreturn, 1) := by decide +kernel
theorem dX11_growth_44 : decode cX11_growth 44 = .ok (.lconst 0, 1) := by decide +kernel
theorem dX11_growth_45 : decode cX11_growth 45 = .ok (.lstore 4, 2) := by decide +kernel
theorem dX11_growth_47 : decode cX11_growth 47 = .ok (.iload_n 2, 1) := by decide +kernel
theorem dX11_growth_48 : decode cX11_growth 48 = .ok (.istore 6, 2) := by decide +kernel
theorem dX11_growth_50 : decode cX11_growth 50 = .ok (.iload 6, 2) := by decide +kernel
theorem dX11_growth_52 : decode cX11_growth 52 = .ok (.iload_n 3, 1) := by decide +kernel
theorem dX11_growth_53 : decode cX11_growth 53 = .ok (.if_icmp .ge 36, 3) := by decide +kernel
theorem dX11_growth_56 : decode cX11_growth 56 = .ok (.lload 4, 2) := by decide +kernel
theorem dX11_growth_58 : decode cX11_growth 58 = .ok (.aload_n 0, 1) := by decide +kernel
theorem dX11_growth_59 : decode cX11_growth 59 = .ok (.iload_n 1, 1) := by decide +kernel
theorem dX11_growth_60 : decode cX11_growth 60 = .ok (.iload 6, 2) := by decide +kernel
theorem dX11_growth_62 : decode cX11_growth 62 = .ok (.iconst 1, 1) := by decide +kernel
theorem dX11_growth_63 : decode cX11_growth 63 = .ok (.iadd, 1) := by decide +kernel
theorem dX11_growth_64 : decode cX11_growth 64 = .ok (.invokevirtual 306, 3) := by decide +kernel
theorem dX11_growth_67 : decode cX11_growth 67 = .ok (.aload_n 0, 1) := by decide +kernel
theorem dX11_growth_68 : decode cX11_growth 68 = .ok (.iload_n 1, 1) := by decide +kernel
theorem dX11_growth_69 : decode cX11_growth 69 = .ok (.iload 6, 2) := by decide +kernel
theorem dX11_growth_71 : decode cX11_growth 71 = .ok (.invokevirtual 306, 3) := by decide +kernel
theorem dX11_growth_74 : decode cX11_growth 74 = .ok (.lsub, 1) := by decide +kernel
theorem dX11_growth_75 : decode cX11_growth 75 = .ok (.invokestatic 239, 3) := by decide +kernel
theorem dX11_growth_78 : decode cX11_growth 78 = .ok (.invokestatic 355, 3) := by decide +kernel
theorem dX11_growth_81 : decode cX11_growth 81 = .ok (.lstore 4, 2) := by decide +kernel
theorem dX11_growth_83 : decode cX11_growth 83 = .ok (.iinc 6 1, 3) := by decide +kernel
theorem dX11_growth_86 : decode cX11_growth 86 = .ok (.goto (-36), 3) := by decide +kernel
theorem dX11_growth_89 : decode cX11_growth 89 = .ok (.lload 4, 2) := by decide +kernel
theorem dX11_growth_91 : decode cX11_growth 91 = .ok (.lreturn, 1) := by decide +kernel
theorem dX11_worstYear_0 : decode cX11_worstYear 0 = .ok (.aload_n 0, 1) := by decide +kernel
theorem dX11_worstYear_1 : decode cX11_worstYear 1 = .ok (.iload_n 1, 1) := by decide +kernel
theorem dX11_worstYear_2 : decode cX11_worstYear 2 = .ok (.invokevirtual 319, 3) := by decide +kernel
theorem dX11_worstYear_5 : decode cX11_worstYear 5 = .ok (.ifCond .ne 37, 3) := by decide +kernel
theorem dX11_worstYear_8 : decode cX11_worstYear 8 = .ok (.aload_n 0, 1) := by decide +kernel
theorem dX11_worstYear_9 : decode cX11_worstYear 9 = .ok (.aload_n 0, 1) := by decide +kernel
theorem dX11_worstYear_10 : decode cX11_worstYear 10 = .ok (.iload_n 2, 1) := by decide +kernel
theorem dX11_worstYear_11 : decode cX11_worstYear 11 = .ok (.invokevirtual 327, 3) := by decide +kernel
theorem dX11_worstYear_14 : decode cX11_worstYear 14 = .ok (.ifCond .eq 16, 3) := by decide +kernel
theorem dX11_worstYear_17 : decode cX11_worstYear 17 = .ok (.aload_n 0, 1) := by decide +kernel
theorem dX11_worstYear_18 : decode cX11_worstYear 18 = .ok (.iload_n 3, 1) := by decide +kernel
theorem dX11_worstYear_19 : decode cX11_worstYear 19 = .ok (.invokevirtual 327, 3) := by decide +kernel
theorem dX11_worstYear_22 : decode cX11_worstYear 22 = .ok (.ifCond .eq 8, 3) := by decide +kernel
theorem dX11_worstYear_25 : decode cX11_worstYear 25 = .ok (.iload_n 3, 1) := by decide +kernel
theorem dX11_worstYear_26 : decode cX11_worstYear 26 = .ok (.iload_n 2, 1) := by decide +kernel
theorem dX11_worstYear_27 : decode cX11_worstYear 27 = .ok (.if_icmp .ge 7, 3) := by decide +kernel
theorem dX11_worstYear_30 : decode cX11_worstYear 30 = .ok (.iconst 1, 1) := by decide +kernel
theorem dX11_worstYear_31 : decode cX11_worstYear 31 = .ok (.goto 4, 3) := by decide +kernel
theorem dX11_worstYear_34 : decode cX11_worstYear 34 = .ok (.iconst 0, 1) := by decide +kernel
theorem dX11_worstYear_35 : decode cX11_worstYear 35 = .ok (.iconst 2, 1) := by decide +kernel
theorem dX11_worstYear_36 : decode cX11_worstYear 36 = .ok (.invokevirtual 309, 3) := by decide +kernel
theorem dX11_worstYear_39 : decode cX11_worstYear 39 = .ok (.ifCond .eq 5, 3) := by decide +kernel
theorem dX11_worstYear_42 : decode cX11_worstYear 42 = .ok (.iconst 0, 1) := by decide +kernel
theorem dX11_worstYear_43 : decode cX11_worstYear 43 = .ok (.ireturn, 1) := by decide +kernel
theorem dX11_worstYear_44 : decode cX11_worstYear 44 = .ok (.iload_n 2, 1) := by decide +kernel
theorem dX11_worstYear_45 : decode cX11_worstYear 45 = .ok (.istore 4, 2) := by decide +kernel
theorem dX11_worstYear_47 : decode cX11_worstYear 47 = .ok (.iload_n 2, 1) := by decide +kernel
theorem dX11_worstYear_48 : decode cX11_worstYear 48 = .ok (.iconst 1, 1) := by decide +kernel
theorem dX11_worstYear_49 : decode cX11_worstYear 49 = .ok (.iadd, 1) := by decide +kernel
theorem dX11_worstYear_50 : decode cX11_worstYear 50 = .ok (.istore 5, 2) := by decide +kernel
theorem dX11_worstYear_52 : decode cX11_worstYear 52 = .ok (.iload 5, 2) := by decide +kernel
theorem dX11_worstYear_54 : decode cX11_worstYear 54 = .ok (.iload_n 3, 1) := by decide +kernel
theorem dX11_worstYear_55 : decode cX11_worstYear 55 = .ok (.if_icmp .gt 31, 3) := by decide +kernel
theorem dX11_worstYear_58 : decode cX11_worstYear 58 = .ok (.aload_n 0, 1) := by decide +kernel
theorem dX11_worstYear_59 : decode cX11_worstYear 59 = .ok (.iload_n 1, 1) := by decide +kernel
theorem dX11_worstYear_60 : decode cX11_worstYear 60 = .ok (.iload 5, 2) := by decide +kernel
theorem dX11_worstYear_62 : decode cX11_worstYear 62 = .ok (.invokevirtual 344, 3) := by decide +kernel
theorem dX11_worstYear_65 : decode cX11_worstYear 65 = .ok (.aload_n 0, 1) := by decide +kernel
theorem dX11_worstYear_66 : decode cX11_worstYear 66 = .ok (.iload_n 1, 1) := by decide +kernel
theorem dX11_worstYear_67 : decode cX11_worstYear 67 = .ok (.iload 4, 2) := by decide +kernel
theorem dX11_worstYear_69 : decode cX11_worstYear 69 = .ok (.invokevirtual 344, 3) := by decide +kernel
theorem dX11_worstYear_72 : decode cX11_worstYear 72 = .ok (.lcmp, 1) := by decide +kernel
theorem dX11_worstYear_73 : decode cX11_worstYear 73 = .ok (.ifCond .le 7, 3) := by decide +kernel
theorem dX11_worstYear_76 : decode cX11_worstYear 76 = .ok (.iload 5, 2) := by decide +kernel
theorem dX11_worstYear_78 : decode cX11_worstYear 78 = .ok (.istore 4, 2) := by decide +kernel
theorem dX11_worstYear_80 : decode cX11_worstYear 80 = .ok (.iinc 5 1, 3) := by decide +kernel
theorem dX11_worstYear_83 : decode cX11_worstYear 83 = .ok (.goto (-31), 3) := by decide +kernel
theorem dX11_worstYear_86 : decode cX11_worstYear 86 = .ok (.iload 4, 2) := by decide +kernel
theorem dX11_worstYear_88 : decode cX11_worstYear 88 = .ok (.ireturn, 1) := by decide +kernel
theorem dX11_revolutions_0 : decode cX11_revolutions 0 = .ok (.aload_n 0, 1) := by decide +kernel
theorem dX11_revolutions_1 : decode cX11_revolutions 1 = .ok (.iload_n 1, 1) := by decide +kernel
theorem dX11_revolutions_2 : decode cX11_revolutions 2 = .ok (.invokevirtual 319, 3) := by decide +kernel
theorem dX11_revolutions_5 : decode cX11_revolutions 5 = .ok (.ifCond .ne 12, 3) := by decide +kernel
theorem dX11_revolutions_8 : decode cX11_revolutions 8 = .ok (.aload_n 0, 1) := by decide +kernel
theorem dX11_revolutions_9 : decode cX11_revolutions 9 = .ok (.iload_n 2, 1) := by decide +kernel
theorem dX11_revolutions_10 : decode cX11_revolutions 10 = .ok (.iconst 2, 1) := by decide +kernel
theorem dX11_revolutions_11 : decode cX11_revolutions 11 = .ok (.invokevirtual 330, 3) := by decide +kernel
theorem dX11_revolutions_14 : decode cX11_revolutions 14 = .ok (.ifCond .eq 5, 3) := by decide +kernel
theorem dX11_revolutions_17 : decode cX11_revolutions 17 = .ok (.lconst 0, 1) := by decide +kernel
theorem dX11_revolutions_18 : decode cX11_revolutions 18 = .ok (.lreturn, 1) := by decide +kernel
theorem dX11_revolutions_19 : decode cX11_revolutions 19 = .ok (.aload_n 0, 1) := by decide +kernel
theorem dX11_revolutions_20 : decode cX11_revolutions 20 = .ok (.iload_n 1, 1) := by decide +kernel
theorem dX11_revolutions_21 : decode cX11_revolutions 21 = .ok (.invokevirtual 278, 3) := by decide +kernel
theorem dX11_revolutions_24 : decode cX11_revolutions 24 = .ok (.aload_n 0, 1) := by decide +kernel
theorem dX11_revolutions_25 : decode cX11_revolutions 25 = .ok (.iload_n 2, 1) := by decide +kernel
theorem dX11_revolutions_26 : decode cX11_revolutions 26 = .ok (.invokevirtual 299, 3) := by decide +kernel
theorem dX11_revolutions_29 : decode cX11_revolutions 29 = .ok (.i2l, 1) := by decide +kernel
theorem dX11_revolutions_30 : decode cX11_revolutions 30 = .ok (.aload_n 0, 1) := by decide +kernel
theorem dX11_revolutions_31 : decode cX11_revolutions 31 = .ok (.getfield 249, 3) := by decide +kernel
theorem dX11_revolutions_34 : decode cX11_revolutions 34 = .ok (.lmul, 1) := by decide +kernel
theorem dX11_revolutions_35 : decode cX11_revolutions 35 = .ok (.aload_n 0, 1) := by decide +kernel
theorem dX11_revolutions_36 : decode cX11_revolutions 36 = .ok (.getfield 253, 3) := by decide +kernel
theorem dX11_revolutions_39 : decode cX11_revolutions 39 = .ok (.invokestatic 358, 3) := by decide +kernel
theorem dX11_revolutions_42 : decode cX11_revolutions 42 = .ok (.lreturn, 1) := by decide +kernel
theorem dX11_leapYears_0 : decode cX11_leapYears 0 = .ok (.aload_n 0, 1) := by decide +kernel
theorem dX11_leapYears_1 : decode cX11_leapYears 1 = .ok (.iconst 0, 1) := by decide +kernel
theorem dX11_leapYears_2 : decode cX11_leapYears 2 = .ok (.putfield 50, 3) := by decide +kernel
theorem dX11_leapYears_5 : decode cX11_leapYears 5 = .ok (.aload_n 0, 1) := by decide +kernel
theorem dX11_leapYears_6 : decode cX11_leapYears 6 = .ok (.aload_n 0, 1) := by decide +kernel
theorem dX11_leapYears_7 : decode cX11_leapYears 7 = .ok (.iload_n 1, 1) := by decide +kernel
theorem dX11_leapYears_8 : decode cX11_leapYears 8 = .ok (.invokevirtual 327, 3) := by decide +kernel
theorem dX11_leapYears_11 : decode cX11_leapYears 11 = .ok (.ifCond .eq 16, 3) := by decide +kernel
theorem dX11_leapYears_14 : decode cX11_leapYears 14 = .ok (.aload_n 0, 1) := by decide +kernel
theorem dX11_leapYears_15 : decode cX11_leapYears 15 = .ok (.iload_n 2, 1) := by decide +kernel
theorem dX11_leapYears_16 : decode cX11_leapYears 16 = .ok (.invokevirtual 327, 3) := by decide +kernel
theorem dX11_leapYears_19 : decode cX11_leapYears 19 = .ok (.ifCond .eq 8, 3) := by decide +kernel
theorem dX11_leapYears_22 : decode cX11_leapYears 22 = .ok (.iload_n 2, 1) := by decide +kernel
theorem dX11_leapYears_23 : decode cX11_leapYears 23 = .ok (.iload_n 1, 1) := by decide +kernel
theorem dX11_leapYears_24 : decode cX11_leapYears 24 = .ok (.if_icmp .ge 7, 3) := by decide +kernel
theorem dX11_leapYears_27 : decode cX11_leapYears 27 = .ok (.iconst 1, 1) := by decide +kernel
theorem dX11_leapYears_28 : decode cX11_leapYears 28 = .ok (.goto 4, 3) := by decide +kernel
theorem dX11_leapYears_31 : decode cX11_leapYears 31 = .ok (.iconst 0, 1) := by decide +kernel
theorem dX11_leapYears_32 : decode cX11_leapYears 32 = .ok (.iconst 1, 1) := by decide +kernel
theorem dX11_leapYears_33 : decode cX11_leapYears 33 = .ok (.invokevirtual 309, 3) := by decide +kernel
theorem dX11_leapYears_36 : decode cX11_leapYears 36 = .ok (.ifCond .eq 5, 3) := by decide +kernel
theorem dX11_leapYears_39 : decode cX11_leapYears 39 = .ok (.iconst 0, 1) := by decide +kernel
theorem dX11_leapYears_40 : decode cX11_leapYears 40 = .ok (.ireturn, 1) := by decide +kernel
theorem dX11_leapYears_41 : decode cX11_leapYears 41 = .ok (.iload_n 2, 1) := by decide +kernel
theorem dX11_leapYears_42 : decode cX11_leapYears 42 = .ok (.iconst 1, 1) := by decide +kernel
theorem dX11_leapYears_43 : decode cX11_leapYears 43 = .ok (.iadd, 1) := by decide +kernel
theorem dX11_leapYears_44 : decode cX11_leapYears 44 = .ok (.invokestatic 296, 3) := by decide +kernel
theorem dX11_leapYears_47 : decode cX11_leapYears 47 = .ok (.iload_n 1, 1) := by decide +kernel
theorem dX11_leapYears_48 : decode cX11_leapYears 48 = .ok (.invokestatic 296, 3) := by decide +kernel
theorem dX11_leapYears_51 : decode cX11_leapYears 51 = .ok (.isub, 1) := by decide +kernel
theorem dX11_leapYears_52 : decode cX11_leapYears 52 = .ok (.ireturn, 1) := by decide +kernel
theorem dX11_isLess_0 : decode cX11_isLess 0 = .ok (.lload_n 0, 1) := by decide +kernel
theorem dX11_isLess_1 : decode cX11_isLess 1 = .ok (.lload_n 2, 1) := by decide +kernel
theorem dX11_isLess_2 : decode cX11_isLess 2 = .ok (.ldiv, 1) := by decide +kernel
theorem dX11_isLess_3 : decode cX11_isLess 3 = .ok (.lload 4, 2) := by decide +kernel
theorem dX11_isLess_5 : decode cX11_isLess 5 = .ok (.lload 6, 2) := by decide +kernel
theorem dX11_isLess_7 : decode cX11_isLess 7 = .ok (.ldiv, 1) := by decide +kernel
theorem dX11_isLess_8 : decode cX11_isLess 8 = .ok (.lcmp, 1) := by decide +kernel
theorem dX11_isLess_9 : decode cX11_isLess 9 = .ok (.ifCond .eq 21, 3) := by decide +kernel
theorem dX11_isLess_12 : decode cX11_isLess 12 = .ok (.lload_n 0, 1) := by decide +kernel
theorem dX11_isLess_13 : decode cX11_isLess 13 = .ok (.lload_n 2, 1) := by decide +kernel
theorem dX11_isLess_14 : decode cX11_isLess 14 = .ok (.ldiv, 1) := by decide +kernel
theorem dX11_isLess_15 : decode cX11_isLess 15 = .ok (.lload 4, 2) := by decide +kernel
theorem dX11_isLess_17 : decode cX11_isLess 17 = .ok (.lload 6, 2) := by decide +kernel
theorem dX11_isLess_19 : decode cX11_isLess 19 = .ok (.ldiv, 1) := by decide +kernel
theorem dX11_isLess_20 : decode cX11_isLess 20 = .ok (.lcmp, 1) := by decide +kernel
theorem dX11_isLess_21 : decode cX11_isLess 21 = .ok (.ifCond .ge 7, 3) := by decide +kernel
theorem dX11_isLess_24 : decode cX11_isLess 24 = .ok (.iconst 1, 1) := by decide +kernel
theorem dX11_isLess_25 : decode cX11_isLess 25 = .ok (.goto 4, 3) := by decide +kernel
theorem dX11_isLess_28 : decode cX11_isLess 28 = .ok (.iconst 0, 1) := by decide +kernel
theorem dX11_isLess_29 : decode cX11_isLess 29 = .ok (.ireturn, 1) := by decide +kernel
theorem dX11_isLess_30 : decode cX11_isLess 30 = .ok (.lload_n 0, 1) := by decide +kernel
theorem dX11_isLess_31 : decode cX11_isLess 31 = .ok (.lload_n 2, 1) := by decide +kernel
theorem dX11_isLess_32 : decode cX11_isLess 32 = .ok (.lrem, 1) := by decide +kernel
theorem dX11_isLess_33 : decode cX11_isLess 33 = .ok (.lload 6, 2) := by decide +kernel
theorem dX11_isLess_35 : decode cX11_isLess 35 = .ok (.lmul, 1) := by decide +kernel
theorem dX11_isLess_36 : decode cX11_isLess 36 = .ok (.lload 4, 2) := by decide +kernel
theorem dX11_isLess_38 : decode cX11_isLess 38 = .ok (.lload 6, 2) := by decide +kernel
theorem dX11_isLess_40 : decode cX11_isLess 40 = .ok (.lrem, 1) := by decide +kernel
theorem dX11_isLess_41 : decode cX11_isLess 41 = .ok (.lload_n 2, 1) := by decide +kernel
theorem dX11_isLess_42 : decode cX11_isLess 42 = .ok (.lmul, 1) := by decide +kernel
theorem dX11_isLess_43 : decode cX11_isLess 43 = .ok (.lcmp, 1) := by decide +kernel
theorem dX11_isLess_44 : decode cX11_isLess 44 = .ok (.ifCond .ge 7, 3) := by decide +kernel
theorem dX11_isLess_47 : decode cX11_isLess 47 = .ok (.iconst 1, 1) := by decide +kernel
theorem dX11_isLess_48 : decode cX11_isLess 48 = .ok (.goto 4, 3) := by decide +kernel
theorem dX11_isLess_51 : decode cX11_isLess 51 = .ok (.iconst 0, 1) := by decide +kernel
theorem dX11_isLess_52 : decode cX11_isLess 52 = .ok (.ireturn, 1) := by decide +kernel
theorem dX11_isBetter_0 : decode cX11_isBetter 0 = .ok (.aload_n 0, 1) := by decide +kernel
theorem dX11_isBetter_1 : decode cX11_isBetter 1 = .ok (.getfield 41, 3) := by decide +kernel
theorem dX11_isBetter_4 : decode cX11_isBetter 4 = .ok (.iconst 0, 1) := by decide +kernel
theorem dX11_isBetter_5 : decode cX11_isBetter 5 = .ok (.iaload, 1) := by decide +kernel
theorem dX11_isBetter_6 : decode cX11_isBetter 6 = .ok (.iconst (-1), 1) := by decide +kernel
theorem dX11_isBetter_7 : decode cX11_isBetter 7 = .ok (.if_icmp .eq 19, 3) := by decide +kernel
theorem dX11_isBetter_10 : decode cX11_isBetter 10 = .ok (.lload_n 1, 1) := by decide +kernel
theorem dX11_isBetter_11 : decode cX11_isBetter 11 = .ok (.lload_n 3, 1) := by decide +kernel
theorem dX11_isBetter_12 : decode cX11_isBetter 12 = .ok (.aload_n 0, 1) := by decide +kernel
theorem dX11_isBetter_13 : decode cX11_isBetter 13 = .ok (.getfield 361, 3) := by decide +kernel
theorem dX11_isBetter_16 : decode cX11_isBetter 16 = .ok (.aload_n 0, 1) := by decide +kernel
theorem dX11_isBetter_17 : decode cX11_isBetter 17 = .ok (.getfield 364, 3) := by decide +kernel
theorem dX11_isBetter_20 : decode cX11_isBetter 20 = .ok (.invokestatic 367, 3) := by decide +kernel
theorem dX11_isBetter_23 : decode cX11_isBetter 23 = .ok (.ifCond .eq 5, 3) := by decide +kernel
theorem dX11_isBetter_26 : decode cX11_isBetter 26 = .ok (.iconst 1, 1) := by decide +kernel
theorem dX11_isBetter_27 : decode cX11_isBetter 27 = .ok (.ireturn, 1) := by decide +kernel
theorem dX11_isBetter_28 : decode cX11_isBetter 28 = .ok (.aload_n 0, 1) := by decide +kernel
theorem dX11_isBetter_29 : decode cX11_isBetter 29 = .ok (.getfield 361, 3) := by decide +kernel
theorem dX11_isBetter_32 : decode cX11_isBetter 32 = .ok (.aload_n 0, 1) := by decide +kernel
theorem dX11_isBetter_33 : decode cX11_isBetter 33 = .ok (.getfield 364, 3) := by decide +kernel
theorem dX11_isBetter_36 : decode cX11_isBetter 36 = .ok (.lload_n 1, 1) := by decide +kernel
theorem dX11_isBetter_37 : decode cX11_isBetter 37 = .ok (.lload_n 3, 1) := by decide +kernel
theorem dX11_isBetter_38 : decode cX11_isBetter 38 = .ok (.invokestatic 367, 3) := by decide +kernel
theorem dX11_isBetter_41 : decode cX11_isBetter 41 = .ok (.ifCond .eq 5, 3) := by decide +kernel
theorem dX11_isBetter_44 : decode cX11_isBetter 44 = .ok (.iconst 0, 1) := by decide +kernel
theorem dX11_isBetter_45 : decode cX11_isBetter 45 = .ok (.ireturn, 1) := by decide +kernel
theorem dX11_isBetter_46 : decode cX11_isBetter 46 = .ok (.iload 5, 2) := by decide +kernel
theorem dX11_isBetter_48 : decode cX11_isBetter 48 = .ok (.iload 6, 2) := by decide +kernel
theorem dX11_isBetter_50 : decode cX11_isBetter 50 = .ok (.iadd, 1) := by decide +kernel
theorem dX11_isBetter_51 : decode cX11_isBetter 51 = .ok (.iload 7, 2) := by decide +kernel
theorem dX11_isBetter_53 : decode cX11_isBetter 53 = .ok (.iadd, 1) := by decide +kernel
theorem dX11_isBetter_54 : decode cX11_isBetter 54 = .ok (.iload 8, 2) := by decide +kernel
theorem dX11_isBetter_56 : decode cX11_isBetter 56 = .ok (.iadd, 1) := by decide +kernel
theorem dX11_isBetter_57 : decode cX11_isBetter 57 = .ok (.aload_n 0, 1) := by decide +kernel
theorem dX11_isBetter_58 : decode cX11_isBetter 58 = .ok (.getfield 41, 3) := by decide +kernel
theorem dX11_isBetter_61 : decode cX11_isBetter 61 = .ok (.iconst 0, 1) := by decide +kernel
theorem dX11_isBetter_62 : decode cX11_isBetter 62 = .ok (.iaload, 1) := by decide +kernel
theorem dX11_isBetter_63 : decode cX11_isBetter 63 = .ok (.isub, 1) := by decide +kernel
theorem dX11_isBetter_64 : decode cX11_isBetter 64 = .ok (.aload_n 0, 1) := by decide +kernel
theorem dX11_isBetter_65 : decode cX11_isBetter 65 = .ok (.getfield 41, 3) := by decide +kernel
theorem dX11_isBetter_68 : decode cX11_isBetter 68 = .ok (.iconst 1, 1) := by decide +kernel
theorem dX11_isBetter_69 : decode cX11_isBetter 69 = .ok (.iaload, 1) := by decide +kernel
theorem dX11_isBetter_70 : decode cX11_isBetter 70 = .ok (.isub, 1) := by decide +kernel
theorem dX11_isBetter_71 : decode cX11_isBetter 71 = .ok (.aload_n 0, 1) := by decide +kernel
theorem dX11_isBetter_72 : decode cX11_isBetter 72 = .ok (.getfield 41, 3) := by decide +kernel
theorem dX11_isBetter_75 : decode cX11_isBetter 75 = .ok (.iconst 2, 1) := by decide +kernel
theorem dX11_isBetter_76 : decode cX11_isBetter 76 = .ok (.iaload, 1) := by decide +kernel
theorem dX11_isBetter_77 : decode cX11_isBetter 77 = .ok (.isub, 1) := by decide +kernel
theorem dX11_isBetter_78 : decode cX11_isBetter 78 = .ok (.aload_n 0, 1) := by decide +kernel
theorem dX11_isBetter_79 : decode cX11_isBetter 79 = .ok (.getfield 41, 3) := by decide +kernel
theorem dX11_isBetter_82 : decode cX11_isBetter 82 = .ok (.iconst 3, 1) := by decide +kernel
theorem dX11_isBetter_83 : decode cX11_isBetter 83 = .ok (.iaload, 1) := by decide +kernel
theorem dX11_isBetter_84 : decode cX11_isBetter 84 = .ok (.isub, 1) := by decide +kernel
theorem dX11_isBetter_85 : decode cX11_isBetter 85 = .ok (.istore 9, 2) := by decide +kernel
theorem dX11_isBetter_87 : decode cX11_isBetter 87 = .ok (.iload 9, 2) := by decide +kernel
theorem dX11_isBetter_89 : decode cX11_isBetter 89 = .ok (.ifCond .eq 14, 3) := by decide +kernel
theorem dX11_isBetter_92 : decode cX11_isBetter 92 = .ok (.iload 9, 2) := by decide +kernel
theorem dX11_isBetter_94 : decode cX11_isBetter 94 = .ok (.ifCond .ge 7, 3) := by decide +kernel
theorem dX11_isBetter_97 : decode cX11_isBetter 97 = .ok (.iconst 1, 1) := by decide +kernel
theorem dX11_isBetter_98 : decode cX11_isBetter 98 = .ok (.goto 4, 3) := by decide +kernel
theorem dX11_isBetter_101 : decode cX11_isBetter 101 = .ok (.iconst 0, 1) := by decide +kernel
theorem dX11_isBetter_102 : decode cX11_isBetter 102 = .ok (.ireturn, 1) := by decide +kernel
theorem dX11_isBetter_103 : decode cX11_isBetter 103 = .ok (.iload 5, 2) := by decide +kernel
theorem dX11_isBetter_105 : decode cX11_isBetter 105 = .ok (.aload_n 0, 1) := by decide +kernel
theorem dX11_isBetter_106 : decode cX11_isBetter 106 = .ok (.getfield 41, 3) := by decide +kernel
theorem dX11_isBetter_109 : decode cX11_isBetter 109 = .ok (.iconst 0, 1) := by decide +kernel
theorem dX11_isBetter_110 : decode cX11_isBetter 110 = .ok (.iaload, 1) := by decide +kernel
theorem dX11_isBetter_111 : decode cX11_isBetter 111 = .ok (.if_icmp .eq 20, 3) := by decide +kernel
theorem dX11_isBetter_114 : decode cX11_isBetter 114 = .ok (.iload 5, 2) := by decide +kernel
theorem dX11_isBetter_116 : decode cX11_isBetter 116 = .ok (.aload_n 0, 1) := by decide +kernel
theorem dX11_isBetter_117 : decode cX11_isBetter 117 = .ok (.getfield 41, 3) := by decide +kernel
theorem dX11_isBetter_120 : decode cX11_isBetter 120 = .ok (.iconst 0, 1) := by decide +kernel
theorem dX11_isBetter_121 : decode cX11_isBetter 121 = .ok (.iaload, 1) := by decide +kernel
theorem dX11_isBetter_122 : decode cX11_isBetter 122 = .ok (.if_icmp .ge 7, 3) := by decide +kernel
theorem dX11_isBetter_125 : decode cX11_isBetter 125 = .ok (.iconst 1, 1) := by decide +kernel
theorem dX11_isBetter_126 : decode cX11_isBetter 126 = .ok (.goto 4, 3) := by decide +kernel
theorem dX11_isBetter_129 : decode cX11_isBetter 129 = .ok (.iconst 0, 1) := by decide +kernel
theorem dX11_isBetter_130 : decode cX11_isBetter 130 = .ok (.ireturn, 1) := by decide +kernel
theorem dX11_isBetter_131 : decode cX11_isBetter 131 = .ok (.iload 6, 2) := by decide +kernel
theorem dX11_isBetter_133 : decode cX11_isBetter 133 = .ok (.aload_n 0, 1) := by decide +kernel
theorem dX11_isBetter_134 : decode cX11_isBetter 134 = .ok (.getfield 41, 3) := by decide +kernel
theorem dX11_isBetter_137 : decode cX11_isBetter 137 = .ok (.iconst 1, 1) := by decide +kernel
theorem dX11_isBetter_138 : decode cX11_isBetter 138 = .ok (.iaload, 1) := by decide +kernel
theorem dX11_isBetter_139 : decode cX11_isBetter 139 = .ok (.if_icmp .eq 20, 3) := by decide +kernel
theorem dX11_isBetter_142 : decode cX11_isBetter 142 = .ok (.iload 6, 2) := by decide +kernel
theorem dX11_isBetter_144 : decode cX11_isBetter 144 = .ok (.aload_n 0, 1) := by decide +kernel
theorem dX11_isBetter_145 : decode cX11_isBetter 145 = .ok (.getfield 41, 3) := by decide +kernel
theorem dX11_isBetter_148 : decode cX11_isBetter 148 = .ok (.iconst 1, 1) := by decide +kernel
theorem dX11_isBetter_149 : decode cX11_isBetter 149 = .ok (.iaload, 1) := by decide +kernel
theorem dX11_isBetter_150 : decode cX11_isBetter 150 = .ok (.if_icmp .ge 7, 3) := by decide +kernel
theorem dX11_isBetter_153 : decode cX11_isBetter 153 = .ok (.iconst 1, 1) := by decide +kernel
theorem dX11_isBetter_154 : decode cX11_isBetter 154 = .ok (.goto 4, 3) := by decide +kernel
theorem dX11_isBetter_157 : decode cX11_isBetter 157 = .ok (.iconst 0, 1) := by decide +kernel
theorem dX11_isBetter_158 : decode cX11_isBetter 158 = .ok (.ireturn, 1) := by decide +kernel
theorem dX11_isBetter_159 : decode cX11_isBetter 159 = .ok (.iload 7, 2) := by decide +kernel
theorem dX11_isBetter_161 : decode cX11_isBetter 161 = .ok (.aload_n 0, 1) := by decide +kernel
theorem dX11_isBetter_162 : decode cX11_isBetter 162 = .ok (.getfield 41, 3) := by decide +kernel
theorem dX11_isBetter_165 : decode cX11_isBetter 165 = .ok (.iconst 2, 1) := by decide +kernel
theorem dX11_isBetter_166 : decode cX11_isBetter 166 = .ok (.iaload, 1) := by decide +kernel
theorem dX11_isBetter_167 : decode cX11_isBetter 167 = .ok (.if_icmp .eq 22, 3) := by decide +kernel
theorem dX11_isBetter_170 : decode cX11_isBetter 170 = .ok (.iload 7, 2) := by decide +kernel
theorem dX11_isBetter_172 : decode cX11_isBetter 172 = .ok (.aload_n 0, 1) := by decide +kernel
theorem dX11_isBetter_173 : decode cX11_isBetter 173 = .ok (.getfield 41, 3) := by decide +kernel
theorem dX11_isBetter_176 : decode cX11_isBetter 176 = .ok (.iconst 2, 1) := by decide +kernel
theorem dX11_isBetter_177 : decode cX11_isBetter 177 = .ok (.iaload, 1) := by decide +kernel
theorem dX11_isBetter_178 : decode cX11_isBetter 178 = .ok (.if_icmp .ge 7, 3) := by decide +kernel
theorem dX11_isBetter_181 : decode cX11_isBetter 181 = .ok (.iconst 1, 1) := by decide +kernel
theorem dX11_isBetter_182 : decode cX11_isBetter 182 = .ok (.goto 23, 3) := by decide +kernel
theorem dX11_isBetter_185 : decode cX11_isBetter 185 = .ok (.iconst 0, 1) := by decide +kernel
theorem dX11_isBetter_186 : decode cX11_isBetter 186 = .ok (.goto 19, 3) := by decide +kernel
theorem dX11_isBetter_189 : decode cX11_isBetter 189 = .ok (.iload 8, 2) := by decide +kernel
theorem dX11_isBetter_191 : decode cX11_isBetter 191 = .ok (.aload_n 0, 1) := by decide +kernel
theorem dX11_isBetter_192 : decode cX11_isBetter 192 = .ok (.getfield 41, 3) := by decide +kernel
theorem dX11_isBetter_195 : decode cX11_isBetter 195 = .ok (.iconst 3, 1) := by decide +kernel
theorem dX11_isBetter_196 : decode cX11_isBetter 196 = .ok (.iaload, 1) := by decide +kernel
theorem dX11_isBetter_197 : decode cX11_isBetter 197 = .ok (.if_icmp .ge 7, 3) := by decide +kernel
theorem dX11_isBetter_200 : decode cX11_isBetter 200 = .ok (.iconst 1, 1) := by decide +kernel
theorem dX11_isBetter_201 : decode cX11_isBetter 201 = .ok (.goto 4, 3) := by decide +kernel
theorem dX11_isBetter_204 : decode cX11_isBetter 204 = .ok (.iconst 0, 1) := by decide +kernel
theorem dX11_isBetter_205 : decode cX11_isBetter 205 = .ok (.ireturn, 1) := by decide +kernel
theorem dX11_offers_0 : decode cX11_offers 0 = .ok (.lload_n 1, 1) := by decide +kernel
theorem dX11_offers_1 : decode cX11_offers 1 = .ok (.aload_n 0, 1) := by decide +kernel
theorem dX11_offers_2 : decode cX11_offers 2 = .ok (.getfield 253, 3) := by decide +kernel
theorem dX11_offers_5 : decode cX11_offers 5 = .ok (.lmul, 1) := by decide +kernel
theorem dX11_offers_6 : decode cX11_offers 6 = .ok (.aload_n 0, 1) := by decide +kernel
theorem dX11_offers_7 : decode cX11_offers 7 = .ok (.getfield 249, 3) := by decide +kernel
theorem dX11_offers_10 : decode cX11_offers 10 = .ok (.invokestatic 239, 3) := by decide +kernel
theorem dX11_offers_13 : decode cX11_offers 13 = .ok (.lload_n 3, 1) := by decide +kernel
theorem dX11_offers_14 : decode cX11_offers 14 = .ok (.lmul, 1) := by decide +kernel
theorem dX11_offers_15 : decode cX11_offers 15 = .ok (.lsub, 1) := by decide +kernel
theorem dX11_offers_16 : decode cX11_offers 16 = .ok (.invokestatic 239, 3) := by decide +kernel
theorem dX11_offers_19 : decode cX11_offers 19 = .ok (.lstore 9, 2) := by decide +kernel
theorem dX11_offers_21 : decode cX11_offers 21 = .ok (.aload_n 0, 1) := by decide +kernel
theorem dX11_offers_22 : decode cX11_offers 22 = .ok (.lload 9, 2) := by decide +kernel
theorem dX11_offers_24 : decode cX11_offers 24 = .ok (.lload_n 3, 1) := by decide +kernel
theorem dX11_offers_25 : decode cX11_offers 25 = .ok (.iload 5, 2) := by decide +kernel
theorem dX11_offers_27 : decode cX11_offers 27 = .ok (.iload 6, 2) := by decide +kernel
theorem dX11_offers_29 : decode cX11_offers 29 = .ok (.iload 7, 2) := by decide +kernel
theorem dX11_offers_31 : decode cX11_offers 31 = .ok (.iload 8, 2) := by decide +kernel
theorem dX11_offers_33 : decode cX11_offers 33 = .ok (.invokevirtual 371, 3) := by decide +kernel
theorem dX11_offers_36 : decode cX11_offers 36 = .ok (.ifCond .ne 4, 3) := by decide +kernel
theorem dX11_offers_39 : decode cX11_offers 39 = .ok (.return_, 1) := by decide +kernel
theorem dX11_offers_40 : decode cX11_offers 40 = .ok (.aload_n 0, 1) := by decide +kernel
theorem dX11_offers_41 : decode cX11_offers 41 = .ok (.getfield 41, 3) := by decide +kernel
theorem dX11_offers_44 : decode cX11_offers 44 = .ok (.iconst 0, 1) := by decide +kernel
theorem dX11_offers_45 : decode cX11_offers 45 = .ok (.iload 5, 2) := by decide +kernel
theorem dX11_offers_47 : decode cX11_offers 47 = .ok (.iastore, 1) := by decide +kernel
theorem dX11_offers_48 : decode cX11_offers 48 = .ok (.aload_n 0, 1) := by decide +kernel
theorem dX11_offers_49 : decode cX11_offers 49 = .ok (.getfield 41, 3) := by decide +kernel
theorem dX11_offers_52 : decode cX11_offers 52 = .ok (.iconst 1, 1) := by decide +kernel
theorem dX11_offers_53 : decode cX11_offers 53 = .ok (.iload 6, 2) := by decide +kernel
theorem dX11_offers_55 : decode cX11_offers 55 = .ok (.iastore, 1) := by decide +kernel
theorem dX11_offers_56 : decode cX11_offers 56 = .ok (.aload_n 0, 1) := by decide +kernel
theorem dX11_offers_57 : decode cX11_offers 57 = .ok (.getfield 41, 3) := by decide +kernel
theorem dX11_offers_60 : decode cX11_offers 60 = .ok (.iconst 2, 1) := by decide +kernel
theorem dX11_offers_61 : decode cX11_offers 61 = .ok (.iload 7, 2) := by decide +kernel
theorem dX11_offers_63 : decode cX11_offers 63 = .ok (.iastore, 1) := by decide +kernel
theorem dX11_offers_64 : decode cX11_offers 64 = .ok (.aload_n 0, 1) := by decide +kernel
theorem dX11_offers_65 : decode cX11_offers 65 = .ok (.getfield 41, 3) := by decide +kernel
theorem dX11_offers_68 : decode cX11_offers 68 = .ok (.iconst 3, 1) := by decide +kernel
theorem dX11_offers_69 : decode cX11_offers 69 = .ok (.iload 8, 2) := by decide +kernel
theorem dX11_offers_71 : decode cX11_offers 71 = .ok (.iastore, 1) := by decide +kernel
theorem dX11_offers_72 : decode cX11_offers 72 = .ok (.aload_n 0, 1) := by decide +kernel
theorem dX11_offers_73 : decode cX11_offers 73 = .ok (.lload 9, 2) := by decide +kernel
theorem dX11_offers_75 : decode cX11_offers 75 = .ok (.putfield 361, 3) := by decide +kernel
theorem dX11_offers_78 : decode cX11_offers 78 = .ok (.aload_n 0, 1) := by decide +kernel
theorem dX11_offers_79 : decode cX11_offers 79 = .ok (.lload_n 3, 1) := by decide +kernel
theorem dX11_offers_80 : decode cX11_offers 80 = .ok (.putfield 364, 3) := by decide +kernel
theorem dX11_offers_83 : decode cX11_offers 83 = .ok (.return_, 1) := by decide +kernel
theorem dX11_searchesPair_0 : decode cX11_searchesPair 0 = .ok (.aload_n 0, 1) := by decide +kernel
theorem dX11_searchesPair_1 : decode cX11_searchesPair 1 = .ok (.iload_n 1, 1) := by decide +kernel
theorem dX11_searchesPair_2 : decode cX11_searchesPair 2 = .ok (.invokevirtual 375, 3) := by decide +kernel
theorem dX11_searchesPair_5 : decode cX11_searchesPair 5 = .ok (.aload_n 0, 1) := by decide +kernel
theorem dX11_searchesPair_6 : decode cX11_searchesPair 6 = .ok (.getfield 41, 3) := by decide +kernel
theorem dX11_searchesPair_9 : decode cX11_searchesPair 9 = .ok (.iconst 0, 1) := by decide +kernel
theorem dX11_searchesPair_10 : decode cX11_searchesPair 10 = .ok (.iconst (-1), 1) := by decide +kernel
theorem dX11_searchesPair_11 : decode cX11_searchesPair 11 = .ok (.iastore, 1) := by decide +kernel
theorem dX11_searchesPair_12 : decode cX11_searchesPair 12 = .ok (.iconst 0, 1) := by decide +kernel
theorem dX11_searchesPair_13 : decode cX11_searchesPair 13 = .ok (.istore_n 2, 1) := by decide +kernel
theorem dX11_searchesPair_14 : decode cX11_searchesPair 14 = .ok (.iload_n 2, 1) := by decide +kernel
theorem dX11_searchesPair_15 : decode cX11_searchesPair 15 = .ok (.aload_n 0, 1) := by decide +kernel
theorem dX11_searchesPair_16 : decode cX11_searchesPair 16 = .ok (.getfield 22, 3) := by decide +kernel
theorem dX11_searchesPair_19 : decode cX11_searchesPair 19 = .ok (.iconst 0, 1) := by decide +kernel
theorem dX11_searchesPair_20 : decode cX11_searchesPair 20 = .ok (.iaload, 1) := by decide +kernel
theorem dX11_searchesPair_21 : decode cX11_searchesPair 21 = .ok (.if_icmp .ge 72, 3) := by decide +kernel
theorem dX11_searchesPair_24 : decode cX11_searchesPair 24 = .ok (.iconst 0, 1) := by decide +kernel
theorem dX11_searchesPair_25 : decode cX11_searchesPair 25 = .ok (.istore_n 3, 1) := by decide +kernel
theorem dX11_searchesPair_26 : decode cX11_searchesPair 26 = .ok (.iload_n 3, 1) := by decide +kernel
theorem dX11_searchesPair_27 : decode cX11_searchesPair 27 = .ok (.aload_n 0, 1) := by decide +kernel
theorem dX11_searchesPair_28 : decode cX11_searchesPair 28 = .ok (.getfield 22, 3) := by decide +kernel
theorem dX11_searchesPair_31 : decode cX11_searchesPair 31 = .ok (.iconst 0, 1) := by decide +kernel
theorem dX11_searchesPair_32 : decode cX11_searchesPair 32 = .ok (.iaload, 1) := by decide +kernel
theorem dX11_searchesPair_33 : decode cX11_searchesPair 33 = .ok (.if_icmp .ge 54, 3) := by decide +kernel
theorem dX11_searchesPair_36 : decode cX11_searchesPair 36 = .ok (.iload_n 2, 1) := by decide +kernel
theorem dX11_searchesPair_37 : decode cX11_searchesPair 37 = .ok (.iload_n 3, 1) := by decide +kernel
theorem dX11_searchesPair_38 : decode cX11_searchesPair 38 = .ok (.if_icmp .eq 43, 3) := by decide +kernel
theorem dX11_searchesPair_41 : decode cX11_searchesPair 41 = .ok (.aload_n 0, 1) := by decide +kernel
theorem dX11_searchesPair_42 : decode cX11_searchesPair 42 = .ok (.aload_n 0, 1) := by decide +kernel
theorem dX11_searchesPair_43 : decode cX11_searchesPair 43 = .ok (.getfield 22, 3) := by decide +kernel
theorem dX11_searchesPair_46 : decode cX11_searchesPair 46 = .ok (.iconst 1, 1) := by decide +kernel
theorem dX11_searchesPair_47 : decode cX11_searchesPair 47 = .ok (.iload_n 2, 1) := by decide +kernel
theorem dX11_searchesPair_48 : decode cX11_searchesPair 48 = .ok (.iadd, 1) := by decide +kernel
theorem dX11_searchesPair_49 : decode cX11_searchesPair 49 = .ok (.iaload, 1) := by decide +kernel
theorem dX11_searchesPair_50 : decode cX11_searchesPair 50 = .ok (.i2l, 1) := by decide +kernel
theorem dX11_searchesPair_51 : decode cX11_searchesPair 51 = .ok (.aload_n 0, 1) := by decide +kernel
theorem dX11_searchesPair_52 : decode cX11_searchesPair 52 = .ok (.getfield 22, 3) := by decide +kernel
theorem dX11_searchesPair_55 : decode cX11_searchesPair 55 = .ok (.iconst 1, 1) := by decide +kernel
theorem dX11_searchesPair_56 : decode cX11_searchesPair 56 = .ok (.iload_n 3, 1) := by decide +kernel
theorem dX11_searchesPair_57 : decode cX11_searchesPair 57 = .ok (.iadd, 1) := by decide +kernel
theorem dX11_searchesPair_58 : decode cX11_searchesPair 58 = .ok (.iaload, 1) := by decide +kernel
theorem dX11_searchesPair_59 : decode cX11_searchesPair 59 = .ok (.i2l, 1) := by decide +kernel
theorem dX11_searchesPair_60 : decode cX11_searchesPair 60 = .ok (.aload_n 0, 1) := by decide +kernel
theorem dX11_searchesPair_61 : decode cX11_searchesPair 61 = .ok (.getfield 22, 3) := by decide +kernel
theorem dX11_searchesPair_64 : decode cX11_searchesPair 64 = .ok (.iconst 1, 1) := by decide +kernel
theorem dX11_searchesPair_65 : decode cX11_searchesPair 65 = .ok (.iload_n 2, 1) := by decide +kernel
theorem dX11_searchesPair_66 : decode cX11_searchesPair 66 = .ok (.iadd, 1) := by decide +kernel
theorem dX11_searchesPair_67 : decode cX11_searchesPair 67 = .ok (.iaload, 1) := by decide +kernel
theorem dX11_searchesPair_68 : decode cX11_searchesPair 68 = .ok (.aload_n 0, 1) := by decide +kernel
theorem dX11_searchesPair_69 : decode cX11_searchesPair 69 = .ok (.getfield 22, 3) := by decide +kernel
theorem dX11_searchesPair_72 : decode cX11_searchesPair 72 = .ok (.iconst 1, 1) := by decide +kernel
theorem dX11_searchesPair_73 : decode cX11_searchesPair 73 = .ok (.iload_n 3, 1) := by decide +kernel
theorem dX11_searchesPair_74 : decode cX11_searchesPair 74 = .ok (.iadd, 1) := by decide +kernel
theorem dX11_searchesPair_75 : decode cX11_searchesPair 75 = .ok (.iaload, 1) := by decide +kernel
theorem dX11_searchesPair_76 : decode cX11_searchesPair 76 = .ok (.iconst 0, 1) := by decide +kernel
theorem dX11_searchesPair_77 : decode cX11_searchesPair 77 = .ok (.iconst 0, 1) := by decide +kernel
theorem dX11_searchesPair_78 : decode cX11_searchesPair 78 = .ok (.invokevirtual 378, 3) := by decide +kernel
theorem dX11_searchesPair_81 : decode cX11_searchesPair 81 = .ok (.iinc 3 1, 3) := by decide +kernel
theorem dX11_searchesPair_84 : decode cX11_searchesPair 84 = .ok (.goto (-58), 3) := by decide +kernel
theorem dX11_searchesPair_87 : decode cX11_searchesPair 87 = .ok (.iinc 2 1, 3) := by decide +kernel
theorem dX11_searchesPair_90 : decode cX11_searchesPair 90 = .ok (.goto (-76), 3) := by decide +kernel
theorem dX11_searchesPair_93 : decode cX11_searchesPair 93 = .ok (.return_, 1) := by decide +kernel
theorem dX11_searchesTrain_0 : decode cX11_searchesTrain 0 = .ok (.aload_n 0, 1) := by decide +kernel
theorem dX11_searchesTrain_1 : decode cX11_searchesTrain 1 = .ok (.iload_n 1, 1) := by decide +kernel
theorem dX11_searchesTrain_2 : decode cX11_searchesTrain 2 = .ok (.invokevirtual 375, 3) := by decide +kernel
theorem dX11_searchesTrain_5 : decode cX11_searchesTrain 5 = .ok (.aload_n 0, 1) := by decide +kernel
theorem dX11_searchesTrain_6 : decode cX11_searchesTrain 6 = .ok (.getfield 41, 3) := by decide +kernel
theorem dX11_searchesTrain_9 : decode cX11_searchesTrain 9 = .ok (.iconst 0, 1) := by decide +kernel
theorem dX11_searchesTrain_10 : decode cX11_searchesTrain 10 = .ok (.iconst (-1), 1) := by decide +kernel
theorem dX11_searchesTrain_11 : decode cX11_searchesTrain 11 = .ok (.iastore, 1) := by decide +kernel
theorem dX11_searchesTrain_12 : decode cX11_searchesTrain 12 = .ok (.aload_n 0, 1) := by decide +kernel
theorem dX11_searchesTrain_13 : decode cX11_searchesTrain 13 = .ok (.getfield 22, 3) := by decide +kernel
theorem dX11_searchesTrain_16 : decode cX11_searchesTrain 16 = .ok (.iconst 0, 1) := by decide +kernel
theorem dX11_searchesTrain_17 : decode cX11_searchesTrain 17 = .ok (.iaload, 1) := by decide +kernel
theorem dX11_searchesTrain_18 : decode cX11_searchesTrain 18 = .ok (.istore_n 2, 1) := by decide +kernel
theorem dX11_searchesTrain_19 : decode cX11_searchesTrain 19 = .ok (.iconst 0, 1) := by decide +kernel
theorem dX11_searchesTrain_20 : decode cX11_searchesTrain 20 = .ok (.istore_n 3, 1) := by decide +kernel
theorem dX11_searchesTrain_21 : decode cX11_searchesTrain 21 = .ok (.iload_n 3, 1) := by decide +kernel
theorem dX11_searchesTrain_22 : decode cX11_searchesTrain 22 = .ok (.iload_n 2, 1) := by decide +kernel
theorem dX11_searchesTrain_23 : decode cX11_searchesTrain 23 = .ok (.iload_n 2, 1) := by decide +kernel
theorem dX11_searchesTrain_24 : decode cX11_searchesTrain 24 = .ok (.imul, 1) := by decide +kernel
theorem dX11_searchesTrain_25 : decode cX11_searchesTrain 25 = .ok (.if_icmp .ge 125, 3) := by decide +kernel
theorem dX11_searchesTrain_28 : decode cX11_searchesTrain 28 = .ok (.iload_n 3, 1) := by decide +kernel
theorem dX11_searchesTrain_29 : decode cX11_searchesTrain 29 = .ok (.istore 4, 2) := by decide +kernel
theorem dX11_searchesTrain_31 : decode cX11_searchesTrain 31 = .ok (.iload 4, 2) := by decide +kernel
theorem dX11_searchesTrain_33 : decode cX11_searchesTrain 33 = .ok (.iload_n 2, 1) := by decide +kernel
theorem dX11_searchesTrain_34 : decode cX11_searchesTrain 34 = .ok (.iload_n 2, 1) := by decide +kernel
theorem dX11_searchesTrain_35 : decode cX11_searchesTrain 35 = .ok (.imul, 1) := by decide +kernel
theorem dX11_searchesTrain_36 : decode cX11_searchesTrain 36 = .ok (.if_icmp .ge 108, 3) := by decide +kernel
theorem dX11_searchesTrain_39 : decode cX11_searchesTrain 39 = .ok (.iload_n 3, 1) := by decide +kernel
theorem dX11_searchesTrain_40 : decode cX11_searchesTrain 40 = .ok (.iload_n 2, 1) := by decide +kernel
theorem dX11_searchesTrain_41 : decode cX11_searchesTrain 41 = .ok (.idiv, 1) := by decide +kernel
theorem dX11_searchesTrain_42 : decode cX11_searchesTrain 42 = .ok (.iload_n 3, 1) := by decide +kernel
theorem dX11_searchesTrain_43 : decode cX11_searchesTrain 43 = .ok (.iload_n 2, 1) := by decide +kernel
theorem dX11_searchesTrain_44 : decode cX11_searchesTrain 44 = .ok (.irem, 1) := by decide +kernel
theorem dX11_searchesTrain_45 : decode cX11_searchesTrain 45 = .ok (.if_icmp .eq 93, 3) := by decide +kernel
theorem dX11_searchesTrain_48 : decode cX11_searchesTrain 48 = .ok (.iload 4, 2) := by decide +kernel
theorem dX11_searchesTrain_50 : decode cX11_searchesTrain 50 = .ok (.iload_n 2, 1) := by decide +kernel
theorem dX11_searchesTrain_51 : decode cX11_searchesTrain 51 = .ok (.idiv, 1) := by decide +kernel
theorem dX11_searchesTrain_52 : decode cX11_searchesTrain 52 = .ok (.iload 4, 2) := by decide +kernel
theorem dX11_searchesTrain_54 : decode cX11_searchesTrain 54 = .ok (.iload_n 2, 1) := by decide +kernel
theorem dX11_searchesTrain_55 : decode cX11_searchesTrain 55 = .ok (.irem, 1) := by decide +kernel
theorem dX11_searchesTrain_56 : decode cX11_searchesTrain 56 = .ok (.if_icmp .ne 6, 3) := by decide +kernel
theorem dX11_searchesTrain_59 : decode cX11_searchesTrain 59 = .ok (.goto 79, 3) := by decide +kernel
theorem dX11_searchesTrain_62 : decode cX11_searchesTrain 62 = .ok (.aload_n 0, 1) := by decide +kernel
theorem dX11_searchesTrain_63 : decode cX11_searchesTrain 63 = .ok (.getfield 22, 3) := by decide +kernel
theorem dX11_searchesTrain_66 : decode cX11_searchesTrain 66 = .ok (.iconst 1, 1) := by decide +kernel
theorem dX11_searchesTrain_67 : decode cX11_searchesTrain 67 = .ok (.iload_n 3, 1) := by decide +kernel
theorem dX11_searchesTrain_68 : decode cX11_searchesTrain 68 = .ok (.iload_n 2, 1) := by decide +kernel
theorem dX11_searchesTrain_69 : decode cX11_searchesTrain 69 = .ok (.idiv, 1) := by decide +kernel
theorem dX11_searchesTrain_70 : decode cX11_searchesTrain 70 = .ok (.iadd, 1) := by decide +kernel
theorem dX11_searchesTrain_71 : decode cX11_searchesTrain 71 = .ok (.iaload, 1) := by decide +kernel
theorem dX11_searchesTrain_72 : decode cX11_searchesTrain 72 = .ok (.istore 5, 2) := by decide +kernel
theorem dX11_searchesTrain_74 : decode cX11_searchesTrain 74 = .ok (.aload_n 0, 1) := by decide +kernel
theorem dX11_searchesTrain_75 : decode cX11_searchesTrain 75 = .ok (.getfield 22, 3) := by decide +kernel
theorem dX11_searchesTrain_78 : decode cX11_searchesTrain 78 = .ok (.iconst 1, 1) := by decide +kernel
theorem dX11_searchesTrain_79 : decode cX11_searchesTrain 79 = .ok (.iload_n 3, 1) := by decide +kernel
theorem dX11_searchesTrain_80 : decode cX11_searchesTrain 80 = .ok (.iload_n 2, 1) := by decide +kernel
theorem dX11_searchesTrain_81 : decode cX11_searchesTrain 81 = .ok (.irem, 1) := by decide +kernel
theorem dX11_searchesTrain_82 : decode cX11_searchesTrain 82 = .ok (.iadd, 1) := by decide +kernel
theorem dX11_searchesTrain_83 : decode cX11_searchesTrain 83 = .ok (.iaload, 1) := by decide +kernel
theorem dX11_searchesTrain_84 : decode cX11_searchesTrain 84 = .ok (.istore 6, 2) := by decide +kernel
theorem dX11_searchesTrain_86 : decode cX11_searchesTrain 86 = .ok (.aload_n 0, 1) := by decide +kernel
theorem dX11_searchesTrain_87 : decode cX11_searchesTrain 87 = .ok (.getfield 22, 3) := by decide +kernel
theorem dX11_searchesTrain_90 : decode cX11_searchesTrain 90 = .ok (.iconst 1, 1) := by decide +kernel
theorem dX11_searchesTrain_91 : decode cX11_searchesTrain 91 = .ok (.iload 4, 2) := by decide +kernel
theorem dX11_searchesTrain_93 : decode cX11_searchesTrain 93 = .ok (.iload_n 2, 1) := by decide +kernel
theorem dX11_searchesTrain_94 : decode cX11_searchesTrain 94 = .ok (.idiv, 1) := by decide +kernel
theorem dX11_searchesTrain_95 : decode cX11_searchesTrain 95 = .ok (.iadd, 1) := by decide +kernel
theorem dX11_searchesTrain_96 : decode cX11_searchesTrain 96 = .ok (.iaload, 1) := by decide +kernel
theorem dX11_searchesTrain_97 : decode cX11_searchesTrain 97 = .ok (.istore 7, 2) := by decide +kernel
theorem dX11_searchesTrain_99 : decode cX11_searchesTrain 99 = .ok (.aload_n 0, 1) := by decide +kernel
theorem dX11_searchesTrain_100 : decode cX11_searchesTrain 100 = .ok (.getfield 22, 3) := by decide +kernel
theorem dX11_searchesTrain_103 : decode cX11_searchesTrain 103 = .ok (.iconst 1, 1) := by decide +kernel
theorem dX11_searchesTrain_104 : decode cX11_searchesTrain 104 = .ok (.iload 4, 2) := by decide +kernel
theorem dX11_searchesTrain_106 : decode cX11_searchesTrain 106 = .ok (.iload_n 2, 1) := by decide +kernel
theorem dX11_searchesTrain_107 : decode cX11_searchesTrain 107 = .ok (.irem, 1) := by decide +kernel
theorem dX11_searchesTrain_108 : decode cX11_searchesTrain 108 = .ok (.iadd, 1) := by decide +kernel
theorem dX11_searchesTrain_109 : decode cX11_searchesTrain 109 = .ok (.iaload, 1) := by decide +kernel
theorem dX11_searchesTrain_110 : decode cX11_searchesTrain 110 = .ok (.istore 8, 2) := by decide +kernel
theorem dX11_searchesTrain_112 : decode cX11_searchesTrain 112 = .ok (.aload_n 0, 1) := by decide +kernel
theorem dX11_searchesTrain_113 : decode cX11_searchesTrain 113 = .ok (.iload 5, 2) := by decide +kernel
theorem dX11_searchesTrain_115 : decode cX11_searchesTrain 115 = .ok (.i2l, 1) := by decide +kernel
theorem dX11_searchesTrain_116 : decode cX11_searchesTrain 116 = .ok (.iload 7, 2) := by decide +kernel
theorem dX11_searchesTrain_118 : decode cX11_searchesTrain 118 = .ok (.i2l, 1) := by decide +kernel
theorem dX11_searchesTrain_119 : decode cX11_searchesTrain 119 = .ok (.lmul, 1) := by decide +kernel
theorem dX11_searchesTrain_120 : decode cX11_searchesTrain 120 = .ok (.iload 6, 2) := by decide +kernel
theorem dX11_searchesTrain_122 : decode cX11_searchesTrain 122 = .ok (.i2l, 1) := by decide +kernel
theorem dX11_searchesTrain_123 : decode cX11_searchesTrain 123 = .ok (.iload 8, 2) := by decide +kernel
theorem dX11_searchesTrain_125 : decode cX11_searchesTrain 125 = .ok (.i2l, 1) := by decide +kernel
theorem dX11_searchesTrain_126 : decode cX11_searchesTrain 126 = .ok (.lmul, 1) := by decide +kernel
theorem dX11_searchesTrain_127 : decode cX11_searchesTrain 127 = .ok (.iload 5, 2) := by decide +kernel
theorem dX11_searchesTrain_129 : decode cX11_searchesTrain 129 = .ok (.iload 6, 2) := by decide +kernel
theorem dX11_searchesTrain_131 : decode cX11_searchesTrain 131 = .ok (.iload 7, 2) := by decide +kernel
theorem dX11_searchesTrain_133 : decode cX11_searchesTrain 133 = .ok (.iload 8, 2) := by decide +kernel
theorem dX11_searchesTrain_135 : decode cX11_searchesTrain 135 = .ok (.invokevirtual 378, 3) := by decide +kernel
theorem dX11_searchesTrain_138 : decode cX11_searchesTrain 138 = .ok (.iinc 4 1, 3) := by decide +kernel
theorem dX11_searchesTrain_141 : decode cX11_searchesTrain 141 = .ok (.goto (-110), 3) := by decide +kernel
theorem dX11_searchesTrain_144 : decode cX11_searchesTrain 144 = .ok (.iinc 3 1, 3) := by decide +kernel
theorem dX11_searchesTrain_147 : decode cX11_searchesTrain 147 = .ok (.goto (-126), 3) := by decide +kernel
theorem dX11_searchesTrain_150 : decode cX11_searchesTrain 150 = .ok (.return_, 1) := by decide +kernel
theorem dX11_bestPair_0 : decode cX11_bestPair 0 = .ok (.aload_n 0, 1) := by decide +kernel
theorem dX11_bestPair_1 : decode cX11_bestPair 1 = .ok (.iload_n 1, 1) := by decide +kernel
theorem dX11_bestPair_2 : decode cX11_bestPair 2 = .ok (.invokevirtual 319, 3) := by decide +kernel
theorem dX11_bestPair_5 : decode cX11_bestPair 5 = .ok (.ifCond .ne 26, 3) := by decide +kernel
theorem dX11_bestPair_8 : decode cX11_bestPair 8 = .ok (.aload_n 0, 1) := by decide +kernel
theorem dX11_bestPair_9 : decode cX11_bestPair 9 = .ok (.iload_n 2, 1) := by decide +kernel
theorem dX11_bestPair_10 : decode cX11_bestPair 10 = .ok (.i2l, 1) := by decide +kernel
theorem dX11_bestPair_11 : decode cX11_bestPair 11 = .ok (.lconst 0, 1) := by decide +kernel
theorem dX11_bestPair_12 : decode cX11_bestPair 12 = .ok (.lconst 1, 1) := by decide +kernel
theorem dX11_bestPair_13 : decode cX11_bestPair 13 = .ok (.invokestatic 71, 3) := by decide +kernel
theorem dX11_bestPair_16 : decode cX11_bestPair 16 = .ok (.ifCond .ne 7, 3) := by decide +kernel
theorem dX11_bestPair_19 : decode cX11_bestPair 19 = .ok (.iconst 1, 1) := by decide +kernel
theorem dX11_bestPair_20 : decode cX11_bestPair 20 = .ok (.goto 4, 3) := by decide +kernel
theorem dX11_bestPair_23 : decode cX11_bestPair 23 = .ok (.iconst 0, 1) := by decide +kernel
theorem dX11_bestPair_24 : decode cX11_bestPair 24 = .ok (.iconst 2, 1) := by decide +kernel
theorem dX11_bestPair_25 : decode cX11_bestPair 25 = .ok (.invokevirtual 309, 3) := by decide +kernel
theorem dX11_bestPair_28 : decode cX11_bestPair 28 = .ok (.ifCond .eq 5, 3) := by decide +kernel
theorem dX11_bestPair_31 : decode cX11_bestPair 31 = .ok (.iconst 0, 1) := by decide +kernel
theorem dX11_bestPair_32 : decode cX11_bestPair 32 = .ok (.ireturn, 1) := by decide +kernel
theorem dX11_bestPair_33 : decode cX11_bestPair 33 = .ok (.aload_n 0, 1) := by decide +kernel
theorem dX11_bestPair_34 : decode cX11_bestPair 34 = .ok (.iload_n 1, 1) := by decide +kernel
theorem dX11_bestPair_35 : decode cX11_bestPair 35 = .ok (.invokevirtual 382, 3) := by decide +kernel
theorem dX11_bestPair_38 : decode cX11_bestPair 38 = .ok (.aload_n 0, 1) := by decide +kernel
theorem dX11_bestPair_39 : decode cX11_bestPair 39 = .ok (.getfield 41, 3) := by decide +kernel
theorem dX11_bestPair_42 : decode cX11_bestPair 42 = .ok (.iconst 0, 1) := by decide +kernel
theorem dX11_bestPair_43 : decode cX11_bestPair 43 = .ok (.iaload, 1) := by decide +kernel
theorem dX11_bestPair_44 : decode cX11_bestPair 44 = .ok (.iconst (-1), 1) := by decide +kernel
theorem dX11_bestPair_45 : decode cX11_bestPair 45 = .ok (.if_icmp .ne 7, 3) := by decide +kernel
theorem dX11_bestPair_48 : decode cX11_bestPair 48 = .ok (.iconst (-1), 1) := by decide +kernel
theorem dX11_bestPair_49 : decode cX11_bestPair 49 = .ok (.goto 9, 3) := by decide +kernel
theorem dX11_bestPair_52 : decode cX11_bestPair 52 = .ok (.aload_n 0, 1) := by decide +kernel
theorem dX11_bestPair_53 : decode cX11_bestPair 53 = .ok (.getfield 41, 3) := by decide +kernel
theorem dX11_bestPair_56 : decode cX11_bestPair 56 = .ok (.iload_n 2, 1) := by decide +kernel
theorem dX11_bestPair_57 : decode cX11_bestPair 57 = .ok (.iaload, 1) := by decide +kernel
theorem dX11_bestPair_58 : decode cX11_bestPair 58 = .ok (.ireturn, 1) := by decide +kernel
theorem dX11_bestTrain_0 : decode cX11_bestTrain 0 = .ok (.aload_n 0, 1) := by decide +kernel
theorem dX11_bestTrain_1 : decode cX11_bestTrain 1 = .ok (.iload_n 1, 1) := by decide +kernel
theorem dX11_bestTrain_2 : decode cX11_bestTrain 2 = .ok (.invokevirtual 319, 3) := by decide +kernel
theorem dX11_bestTrain_5 : decode cX11_bestTrain 5 = .ok (.ifCond .ne 28, 3) := by decide +kernel
theorem dX11_bestTrain_8 : decode cX11_bestTrain 8 = .ok (.aload_n 0, 1) := by decide +kernel
theorem dX11_bestTrain_9 : decode cX11_bestTrain 9 = .ok (.iload_n 2, 1) := by decide +kernel
theorem dX11_bestTrain_10 : decode cX11_bestTrain 10 = .ok (.i2l, 1) := by decide +kernel
theorem dX11_bestTrain_11 : decode cX11_bestTrain 11 = .ok (.lconst 0, 1) := by decide +kernel
theorem dX11_bestTrain_12 : decode cX11_bestTrain 12 = .ok (.ldc2_w 385, 3) := by decide +kernel
theorem dX11_bestTrain_15 : decode cX11_bestTrain 15 = .ok (.invokestatic 71, 3) := by decide +kernel
theorem dX11_bestTrain_18 : decode cX11_bestTrain 18 = .ok (.ifCond .ne 7, 3) := by decide +kernel
theorem dX11_bestTrain_21 : decode cX11_bestTrain 21 = .ok (.iconst 1, 1) := by decide +kernel
theorem dX11_bestTrain_22 : decode cX11_bestTrain 22 = .ok (.goto 4, 3) := by decide +kernel
theorem dX11_bestTrain_25 : decode cX11_bestTrain 25 = .ok (.iconst 0, 1) := by decide +kernel
theorem dX11_bestTrain_26 : decode cX11_bestTrain 26 = .ok (.iconst 2, 1) := by decide +kernel
theorem dX11_bestTrain_27 : decode cX11_bestTrain 27 = .ok (.invokevirtual 309, 3) := by decide +kernel
theorem dX11_bestTrain_30 : decode cX11_bestTrain 30 = .ok (.ifCond .eq 5, 3) := by decide +kernel
theorem dX11_bestTrain_33 : decode cX11_bestTrain 33 = .ok (.iconst 0, 1) := by decide +kernel
theorem dX11_bestTrain_34 : decode cX11_bestTrain 34 = .ok (.ireturn, 1) := by decide +kernel
theorem dX11_bestTrain_35 : decode cX11_bestTrain 35 = .ok (.aload_n 0, 1) := by decide +kernel
theorem dX11_bestTrain_36 : decode cX11_bestTrain 36 = .ok (.iload_n 1, 1) := by decide +kernel
theorem dX11_bestTrain_37 : decode cX11_bestTrain 37 = .ok (.invokevirtual 387, 3) := by decide +kernel
theorem dX11_bestTrain_40 : decode cX11_bestTrain 40 = .ok (.aload_n 0, 1) := by decide +kernel
theorem dX11_bestTrain_41 : decode cX11_bestTrain 41 = .ok (.getfield 41, 3) := by decide +kernel
theorem dX11_bestTrain_44 : decode cX11_bestTrain 44 = .ok (.iconst 0, 1) := by decide +kernel
theorem dX11_bestTrain_45 : decode cX11_bestTrain 45 = .ok (.iaload, 1) := by decide +kernel
theorem dX11_bestTrain_46 : decode cX11_bestTrain 46 = .ok (.iconst (-1), 1) := by decide +kernel
theorem dX11_bestTrain_47 : decode cX11_bestTrain 47 = .ok (.if_icmp .ne 7, 3) := by decide +kernel
theorem dX11_bestTrain_50 : decode cX11_bestTrain 50 = .ok (.iconst (-1), 1) := by decide +kernel
theorem dX11_bestTrain_51 : decode cX11_bestTrain 51 = .ok (.goto 9, 3) := by decide +kernel
theorem dX11_bestTrain_54 : decode cX11_bestTrain 54 = .ok (.aload_n 0, 1) := by decide +kernel
theorem dX11_bestTrain_55 : decode cX11_bestTrain 55 = .ok (.getfield 41, 3) := by decide +kernel
theorem dX11_bestTrain_58 : decode cX11_bestTrain 58 = .ok (.iload_n 2, 1) := by decide +kernel
theorem dX11_bestTrain_59 : decode cX11_bestTrain 59 = .ok (.iaload, 1) := by decide +kernel
theorem dX11_bestTrain_60 : decode cX11_bestTrain 60 = .ok (.ireturn, 1) := by decide +kernel
theorem dX11_convergent_0 : decode cX11_convergent 0 = .ok (.aload_n 0, 1) := by decide +kernel
theorem dX11_convergent_1 : decode cX11_convergent 1 = .ok (.iload_n 1, 1) := by decide +kernel
theorem dX11_convergent_2 : decode cX11_convergent 2 = .ok (.invokevirtual 319, 3) := by decide +kernel
theorem dX11_convergent_5 : decode cX11_convergent 5 = .ok (.ifCond .ne 30, 3) := by decide +kernel
theorem dX11_convergent_8 : decode cX11_convergent 8 = .ok (.aload_n 0, 1) := by decide +kernel
theorem dX11_convergent_9 : decode cX11_convergent 9 = .ok (.iload_n 2, 1) := by decide +kernel
theorem dX11_convergent_10 : decode cX11_convergent 10 = .ok (.ifCond .lt 13, 3) := by decide +kernel
theorem dX11_convergent_13 : decode cX11_convergent 13 = .ok (.iload_n 3, 1) := by decide +kernel
theorem dX11_convergent_14 : decode cX11_convergent 14 = .ok (.i2l, 1) := by decide +kernel
theorem dX11_convergent_15 : decode cX11_convergent 15 = .ok (.lconst 0, 1) := by decide +kernel
theorem dX11_convergent_16 : decode cX11_convergent 16 = .ok (.lconst 1, 1) := by decide +kernel
theorem dX11_convergent_17 : decode cX11_convergent 17 = .ok (.invokestatic 71, 3) := by decide +kernel
theorem dX11_convergent_20 : decode cX11_convergent 20 = .ok (.ifCond .ne 7, 3) := by decide +kernel
theorem dX11_convergent_23 : decode cX11_convergent 23 = .ok (.iconst 1, 1) := by decide +kernel
theorem dX11_convergent_24 : decode cX11_convergent 24 = .ok (.goto 4, 3) := by decide +kernel
theorem dX11_convergent_27 : decode cX11_convergent 27 = .ok (.iconst 0, 1) := by decide +kernel
theorem dX11_convergent_28 : decode cX11_convergent 28 = .ok (.iconst 2, 1) := by decide +kernel
theorem dX11_convergent_29 : decode cX11_convergent 29 = .ok (.invokevirtual 309, 3) := by decide +kernel
theorem dX11_convergent_32 : decode cX11_convergent 32 = .ok (.ifCond .eq 5, 3) := by decide +kernel
theorem dX11_convergent_35 : decode cX11_convergent 35 = .ok (.lconst 0, 1) := by decide +kernel
theorem dX11_convergent_36 : decode cX11_convergent 36 = .ok (.lreturn, 1) := by decide +kernel
theorem dX11_convergent_37 : decode cX11_convergent 37 = .ok (.ldc2_w 273, 3) := by decide +kernel
theorem dX11_convergent_40 : decode cX11_convergent 40 = .ok (.lstore 4, 2) := by decide +kernel
theorem dX11_convergent_42 : decode cX11_convergent 42 = .ok (.aload_n 0, 1) := by decide +kernel
theorem dX11_convergent_43 : decode cX11_convergent 43 = .ok (.iload_n 1, 1) := by decide +kernel
theorem dX11_convergent_44 : decode cX11_convergent 44 = .ok (.iconst 0, 1) := by decide +kernel
theorem dX11_convergent_45 : decode cX11_convergent 45 = .ok (.invokevirtual 185, 3) := by decide +kernel
theorem dX11_convergent_48 : decode cX11_convergent 48 = .ok (.i2l, 1) := by decide +kernel
theorem dX11_convergent_49 : decode cX11_convergent 49 = .ok (.lstore 6, 2) := by decide +kernel
theorem dX11_convergent_51 : decode cX11_convergent 51 = .ok (.lconst 1, 1) := by decide +kernel
theorem dX11_convergent_52 : decode cX11_convergent 52 = .ok (.lstore 8, 2) := by decide +kernel
theorem dX11_convergent_54 : decode cX11_convergent 54 = .ok (.lconst 0, 1) := by decide +kernel
theorem dX11_convergent_55 : decode cX11_convergent 55 = .ok (.lstore 10, 2) := by decide +kernel
theorem dX11_convergent_57 : decode cX11_convergent 57 = .ok (.lconst 0, 1) := by decide +kernel
theorem dX11_convergent_58 : decode cX11_convergent 58 = .ok (.lstore 12, 2) := by decide +kernel
theorem dX11_convergent_60 : decode cX11_convergent 60 = .ok (.lconst 1, 1) := by decide +kernel
theorem dX11_convergent_61 : decode cX11_convergent 61 = .ok (.lstore 14, 2) := by decide +kernel
theorem dX11_convergent_63 : decode cX11_convergent 63 = .ok (.iconst 0, 1) := by decide +kernel
theorem dX11_convergent_64 : decode cX11_convergent 64 = .ok (.istore 16, 2) := by decide +kernel
theorem dX11_convergent_66 : decode cX11_convergent 66 = .ok (.iload 16, 2) := by decide +kernel
theorem dX11_convergent_68 : decode cX11_convergent 68 = .ok (.iload_n 2, 1) := by decide +kernel
theorem dX11_convergent_69 : decode cX11_convergent 69 = .ok (.if_icmp .gt 78, 3) := by decide +kernel
theorem dX11_convergent_72 : decode cX11_convergent 72 = .ok (.lload 6, 2) := by decide +kernel
theorem dX11_convergent_74 : decode cX11_convergent 74 = .ok (.lconst 0, 1) := by decide +kernel
theorem dX11_convergent_75 : decode cX11_convergent 75 = .ok (.lcmp, 1) := by decide +kernel
theorem dX11_convergent_76 : decode cX11_convergent 76 = .ok (.ifCond .ne 7, 3) := by decide +kernel
theorem dX11_convergent_79 : decode cX11_convergent 79 = .ok (.ldc2_w 347, 3) := by decide +kernel
theorem dX11_convergent_82 : decode cX11_convergent 82 = .ok (.lreturn, 1) := by decide +kernel
theorem dX11_convergent_83 : decode cX11_convergent 83 = .ok (.lload 4, 2) := by decide +kernel
theorem dX11_convergent_85 : decode cX11_convergent 85 = .ok (.lload 6, 2) := by decide +kernel
theorem dX11_convergent_87 : decode cX11_convergent 87 = .ok (.ldiv, 1) := by decide +kernel
theorem dX11_convergent_88 : decode cX11_convergent 88 = .ok (.lstore 17, 2) := by decide +kernel
theorem dX11_convergent_90 : decode cX11_convergent 90 = .ok (.lload 4, 2) := by decide +kernel
theorem dX11_convergent_92 : decode cX11_convergent 92 = .ok (.lload 6, 2) := by decide +kernel
theorem dX11_convergent_94 : decode cX11_convergent 94 = .ok (.lrem, 1) := by decide +kernel
theorem dX11_convergent_95 : decode cX11_convergent 95 = .ok (.lstore 19, 2) := by decide +kernel
theorem dX11_convergent_97 : decode cX11_convergent 97 = .ok (.lload 6, 2) := by decide +kernel
theorem dX11_convergent_99 : decode cX11_convergent 99 = .ok (.lstore 4, 2) := by decide +kernel
theorem dX11_convergent_101 : decode cX11_convergent 101 = .ok (.lload 19, 2) := by decide +kernel
theorem dX11_convergent_103 : decode cX11_convergent 103 = .ok (.lstore 6, 2) := by decide +kernel
theorem dX11_convergent_105 : decode cX11_convergent 105 = .ok (.lload 17, 2) := by decide +kernel
theorem dX11_convergent_107 : decode cX11_convergent 107 = .ok (.lload 8, 2) := by decide +kernel
theorem dX11_convergent_109 : decode cX11_convergent 109 = .ok (.lmul, 1) := by decide +kernel
theorem dX11_convergent_110 : decode cX11_convergent 110 = .ok (.lload 12, 2) := by decide +kernel
theorem dX11_convergent_112 : decode cX11_convergent 112 = .ok (.ladd, 1) := by decide +kernel
theorem dX11_convergent_113 : decode cX11_convergent 113 = .ok (.lstore 21, 2) := by decide +kernel
theorem dX11_convergent_115 : decode cX11_convergent 115 = .ok (.lload 17, 2) := by decide +kernel
theorem dX11_convergent_117 : decode cX11_convergent 117 = .ok (.lload 10, 2) := by decide +kernel
theorem dX11_convergent_119 : decode cX11_convergent 119 = .ok (.lmul, 1) := by decide +kernel
theorem dX11_convergent_120 : decode cX11_convergent 120 = .ok (.lload 14, 2) := by decide +kernel
theorem dX11_convergent_122 : decode cX11_convergent 122 = .ok (.ladd, 1) := by decide +kernel
theorem dX11_convergent_123 : decode cX11_convergent 123 = .ok (.lstore 23, 2) := by decide +kernel
theorem dX11_convergent_125 : decode cX11_convergent 125 = .ok (.lload 8, 2) := by decide +kernel
theorem dX11_convergent_127 : decode cX11_convergent 127 = .ok (.lstore 12, 2) := by decide +kernel
theorem dX11_convergent_129 : decode cX11_convergent 129 = .ok (.lload 10, 2) := by decide +kernel
theorem dX11_convergent_131 : decode cX11_convergent 131 = .ok (.lstore 14, 2) := by decide +kernel
theorem dX11_convergent_133 : decode cX11_convergent 133 = .ok (.lload 21, 2) := by decide +kernel
theorem dX11_convergent_135 : decode cX11_convergent 135 = .ok (.lstore 8, 2) := by decide +kernel
theorem dX11_convergent_137 : decode cX11_convergent 137 = .ok (.lload 23, 2) := by decide +kernel
theorem dX11_convergent_139 : decode cX11_convergent 139 = .ok (.lstore 10, 2) := by decide +kernel
theorem dX11_convergent_141 : decode cX11_convergent 141 = .ok (.iinc 16 1, 3) := by decide +kernel
theorem dX11_convergent_144 : decode cX11_convergent 144 = .ok (.goto (-78), 3) := by decide +kernel
theorem dX11_convergent_147 : decode cX11_convergent 147 = .ok (.iload_n 3, 1) := by decide +kernel
theorem dX11_convergent_148 : decode cX11_convergent 148 = .ok (.ifCond .ne 8, 3) := by decide +kernel
theorem dX11_convergent_151 : decode cX11_convergent 151 = .ok (.lload 8, 2) := by decide +kernel
theorem dX11_convergent_153 : decode cX11_convergent 153 = .ok (.goto 5, 3) := by decide +kernel
theorem dX11_convergent_156 : decode cX11_convergent 156 = .ok (.lload 10, 2) := by decide +kernel
theorem dX11_convergent_158 : decode cX11_convergent 158 = .ok (.lreturn, 1) := by decide +kernel
theorem dX11_bestFraction_0 : decode cX11_bestFraction 0 = .ok (.aload_n 0, 1) := by decide +kernel
theorem dX11_bestFraction_1 : decode cX11_bestFraction 1 = .ok (.iload_n 1, 1) := by decide +kernel
theorem dX11_bestFraction_2 : decode cX11_bestFraction 2 = .ok (.invokevirtual 319, 3) := by decide +kernel
theorem dX11_bestFraction_5 : decode cX11_bestFraction 5 = .ok (.ifCond .ne 38, 3) := by decide +kernel
theorem dX11_bestFraction_8 : decode cX11_bestFraction 8 = .ok (.aload_n 0, 1) := by decide +kernel
theorem dX11_bestFraction_9 : decode cX11_bestFraction 9 = .ok (.iload_n 2, 1) := by decide +kernel
theorem dX11_bestFraction_10 : decode cX11_bestFraction 10 = .ok (.i2l, 1) := by decide +kernel
theorem dX11_bestFraction_11 : decode cX11_bestFraction 11 = .ok (.lconst 1, 1) := by decide +kernel
theorem dX11_bestFraction_12 : decode cX11_bestFraction 12 = .ok (.ldc2_w 390, 3) := by decide +kernel
theorem dX11_bestFraction_15 : decode cX11_bestFraction 15 = .ok (.invokestatic 71, 3) := by decide +kernel
theorem dX11_bestFraction_18 : decode cX11_bestFraction 18 = .ok (.ifCond .eq 13, 3) := by decide +kernel
theorem dX11_bestFraction_21 : decode cX11_bestFraction 21 = .ok (.iload_n 3, 1) := by decide +kernel
theorem dX11_bestFraction_22 : decode cX11_bestFraction 22 = .ok (.i2l, 1) := by decide +kernel
theorem dX11_bestFraction_23 : decode cX11_bestFraction 23 = .ok (.lconst 0, 1) := by decide +kernel
theorem dX11_bestFraction_24 : decode cX11_bestFraction 24 = .ok (.lconst 1, 1) := by decide +kernel
theorem dX11_bestFraction_25 : decode cX11_bestFraction 25 = .ok (.invokestatic 71, 3) := by decide +kernel
theorem dX11_bestFraction_28 : decode cX11_bestFraction 28 = .ok (.ifCond .ne 7, 3) := by decide +kernel
theorem dX11_bestFraction_31 : decode cX11_bestFraction 31 = .ok (.iconst 1, 1) := by decide +kernel
theorem dX11_bestFraction_32 : decode cX11_bestFraction 32 = .ok (.goto 4, 3) := by decide +kernel
theorem dX11_bestFraction_35 : decode cX11_bestFraction 35 = .ok (.iconst 0, 1) := by decide +kernel
theorem dX11_bestFraction_36 : decode cX11_bestFraction 36 = .ok (.iconst 2, 1) := by decide +kernel
theorem dX11_bestFraction_37 : decode cX11_bestFraction 37 = .ok (.invokevirtual 309, 3) := by decide +kernel
theorem dX11_bestFraction_40 : decode cX11_bestFraction 40 = .ok (.ifCond .eq 5, 3) := by decide +kernel
theorem dX11_bestFraction_43 : decode cX11_bestFraction 43 = .ok (.iconst 0, 1) := by decide +kernel
theorem dX11_bestFraction_44 : decode cX11_bestFraction 44 = .ok (.ireturn, 1) := by decide +kernel
theorem dX11_bestFraction_45 : decode cX11_bestFraction 45 = .ok (.aload_n 0, 1) := by decide +kernel
theorem dX11_bestFraction_46 : decode cX11_bestFraction 46 = .ok (.iload_n 1, 1) := by decide +kernel
theorem dX11_bestFraction_47 : decode cX11_bestFraction 47 = .ok (.iconst 0, 1) := by decide +kernel
theorem dX11_bestFraction_48 : decode cX11_bestFraction 48 = .ok (.invokevirtual 185, 3) := by decide +kernel
theorem dX11_bestFraction_51 : decode cX11_bestFraction 51 = .ok (.i2l, 1) := by decide +kernel
theorem dX11_bestFraction_52 : decode cX11_bestFraction 52 = .ok (.lstore 4, 2) := by decide +kernel
theorem dX11_bestFraction_54 : decode cX11_bestFraction 54 = .ok (.iconst 0, 1) := by decide +kernel
theorem dX11_bestFraction_55 : decode cX11_bestFraction 55 = .ok (.istore 6, 2) := by decide +kernel
theorem dX11_bestFraction_57 : decode cX11_bestFraction 57 = .ok (.iconst 1, 1) := by decide +kernel
theorem dX11_bestFraction_58 : decode cX11_bestFraction 58 = .ok (.istore 7, 2) := by decide +kernel
theorem dX11_bestFraction_60 : decode cX11_bestFraction 60 = .ok (.ldc2_w 273, 3) := by decide +kernel
theorem dX11_bestFraction_63 : decode cX11_bestFraction 63 = .ok (.lstore 8, 2) := by decide +kernel
theorem dX11_bestFraction_65 : decode cX11_bestFraction 65 = .ok (.iconst 1, 1) := by decide +kernel
theorem dX11_bestFraction_66 : decode cX11_bestFraction 66 = .ok (.istore 10, 2) := by decide +kernel
theorem dX11_bestFraction_68 : decode cX11_bestFraction 68 = .ok (.iload 10, 2) := by decide +kernel
theorem dX11_bestFraction_70 : decode cX11_bestFraction 70 = .ok (.iload_n 2, 1) := by decide +kernel
theorem dX11_bestFraction_71 : decode cX11_bestFraction 71 = .ok (.if_icmp .gt 97, 3) := by decide +kernel
theorem dX11_bestFraction_74 : decode cX11_bestFraction 74 = .ok (.ldc2_w 273, 3) := by decide +kernel
theorem dX11_bestFraction_77 : decode cX11_bestFraction 77 = .ok (.iload 10, 2) := by decide +kernel
theorem dX11_bestFraction_79 : decode cX11_bestFraction 79 = .ok (.i2l, 1) := by decide +kernel
theorem dX11_bestFraction_80 : decode cX11_bestFraction 80 = .ok (.lmul, 1) := by decide +kernel
theorem dX11_bestFraction_81 : decode cX11_bestFraction 81 = .ok (.lload 4, 2) := by decide +kernel
theorem dX11_bestFraction_83 : decode cX11_bestFraction 83 = .ok (.ldiv, 1) := by decide +kernel
theorem dX11_bestFraction_84 : decode cX11_bestFraction 84 = .ok (.l2i, 1) := by decide +kernel
theorem dX11_bestFraction_85 : decode cX11_bestFraction 85 = .ok (.istore 11, 2) := by decide +kernel
theorem dX11_bestFraction_87 : decode cX11_bestFraction 87 = .ok (.iload 11, 2) := by decide +kernel
theorem dX11_bestFraction_89 : decode cX11_bestFraction 89 = .ok (.i2l, 1) := by decide +kernel
theorem dX11_bestFraction_90 : decode cX11_bestFraction 90 = .ok (.ldc2_w 273, 3) := by decide +kernel
theorem dX11_bestFraction_93 : decode cX11_bestFraction 93 = .ok (.iload 10, 2) := by decide +kernel
theorem dX11_bestFraction_95 : decode cX11_bestFraction 95 = .ok (.i2l, 1) := by decide +kernel
theorem dX11_bestFraction_96 : decode cX11_bestFraction 96 = .ok (.lmul, 1) := by decide +kernel
theorem dX11_bestFraction_97 : decode cX11_bestFraction 97 = .ok (.lload 4, 2) := by decide +kernel
theorem dX11_bestFraction_99 : decode cX11_bestFraction 99 = .ok (.ldiv, 1) := by decide +kernel
theorem dX11_bestFraction_100 : decode cX11_bestFraction 100 = .ok (.lconst 1, 1) := by decide +kernel
theorem dX11_bestFraction_101 : decode cX11_bestFraction 101 = .ok (.ladd, 1) := by decide +kernel
theorem dX11_bestFraction_102 : decode cX11_bestFraction 102 = .ok (.lcmp, 1) := by decide +kernel
theorem dX11_bestFraction_103 : decode cX11_bestFraction 103 = .ok (.ifCond .gt 59, 3) := by decide +kernel
theorem dX11_bestFraction_106 : decode cX11_bestFraction 106 = .ok (.iload 11, 2) := by decide +kernel
theorem dX11_bestFraction_108 : decode cX11_bestFraction 108 = .ok (.i2l, 1) := by decide +kernel
theorem dX11_bestFraction_109 : decode cX11_bestFraction 109 = .ok (.lload 4, 2) := by decide +kernel
theorem dX11_bestFraction_111 : decode cX11_bestFraction 111 = .ok (.lmul, 1) := by decide +kernel
theorem dX11_bestFraction_112 : decode cX11_bestFraction 112 = .ok (.ldc2_w 273, 3) := by decide +kernel
theorem dX11_bestFraction_115 : decode cX11_bestFraction 115 = .ok (.iload 10, 2) := by decide +kernel
theorem dX11_bestFraction_117 : decode cX11_bestFraction 117 = .ok (.i2l, 1) := by decide +kernel
theorem dX11_bestFraction_118 : decode cX11_bestFraction 118 = .ok (.lmul, 1) := by decide +kernel
theorem dX11_bestFraction_119 : decode cX11_bestFraction 119 = .ok (.lsub, 1) := by decide +kernel
theorem dX11_bestFraction_120 : decode cX11_bestFraction 120 = .ok (.invokestatic 239, 3) := by decide +kernel
theorem dX11_bestFraction_123 : decode cX11_bestFraction 123 = .ok (.lstore 12, 2) := by decide +kernel
theorem dX11_bestFraction_125 : decode cX11_bestFraction 125 = .ok (.lload 12, 2) := by decide +kernel
theorem dX11_bestFraction_127 : decode cX11_bestFraction 127 = .ok (.iload 7, 2) := by decide +kernel
theorem dX11_bestFraction_129 : decode cX11_bestFraction 129 = .ok (.i2l, 1) := by decide +kernel
theorem dX11_bestFraction_130 : decode cX11_bestFraction 130 = .ok (.lmul, 1) := by decide +kernel
theorem dX11_bestFraction_131 : decode cX11_bestFraction 131 = .ok (.lload 8, 2) := by decide +kernel
theorem dX11_bestFraction_133 : decode cX11_bestFraction 133 = .ok (.iload 10, 2) := by decide +kernel
theorem dX11_bestFraction_135 : decode cX11_bestFraction 135 = .ok (.i2l, 1) := by decide +kernel
theorem dX11_bestFraction_136 : decode cX11_bestFraction 136 = .ok (.lmul, 1) := by decide +kernel
theorem dX11_bestFraction_137 : decode cX11_bestFraction 137 = .ok (.lcmp, 1) := by decide +kernel
theorem dX11_bestFraction_138 : decode cX11_bestFraction 138 = .ok (.ifCond .lt 6, 3) := by decide +kernel
theorem dX11_bestFraction_141 : decode cX11_bestFraction 141 = .ok (.goto 15, 3) := by decide +kernel
theorem dX11_bestFraction_144 : decode cX11_bestFraction 144 = .ok (.iload 11, 2) := by decide +kernel
theorem dX11_bestFraction_146 : decode cX11_bestFraction 146 = .ok (.istore 6, 2) := by decide +kernel
theorem dX11_bestFraction_148 : decode cX11_bestFraction 148 = .ok (.iload 10, 2) := by decide +kernel
theorem dX11_bestFraction_150 : decode cX11_bestFraction 150 = .ok (.istore 7, 2) := by decide +kernel
theorem dX11_bestFraction_152 : decode cX11_bestFraction 152 = .ok (.lload 12, 2) := by decide +kernel
theorem dX11_bestFraction_154 : decode cX11_bestFraction 154 = .ok (.lstore 8, 2) := by decide +kernel
theorem dX11_bestFraction_156 : decode cX11_bestFraction 156 = .ok (.iinc 11 1, 3) := by decide +kernel
theorem dX11_bestFraction_159 : decode cX11_bestFraction 159 = .ok (.goto (-72), 3) := by decide +kernel
theorem dX11_bestFraction_162 : decode cX11_bestFraction 162 = .ok (.iinc 10 1, 3) := by decide +kernel
theorem dX11_bestFraction_165 : decode cX11_bestFraction 165 = .ok (.goto (-97), 3) := by decide +kernel
theorem dX11_bestFraction_168 : decode cX11_bestFraction 168 = .ok (.iload_n 3, 1) := by decide +kernel
theorem dX11_bestFraction_169 : decode cX11_bestFraction 169 = .ok (.ifCond .ne 8, 3) := by decide +kernel
theorem dX11_bestFraction_172 : decode cX11_bestFraction 172 = .ok (.iload 6, 2) := by decide +kernel
theorem dX11_bestFraction_174 : decode cX11_bestFraction 174 = .ok (.goto 5, 3) := by decide +kernel
theorem dX11_bestFraction_177 : decode cX11_bestFraction 177 = .ok (.iload 7, 2) := by decide +kernel
theorem dX11_bestFraction_179 : decode cX11_bestFraction 179 = .ok (.ireturn, 1) := by decide +kernel
theorem dX11_frees_0 : decode cX11_frees 0 = .ok (.aload_n 0, 1) := by decide +kernel
theorem dX11_frees_1 : decode cX11_frees 1 = .ok (.getfield 22, 3) := by decide +kernel
theorem dX11_frees_4 : decode cX11_frees 4 = .ok (.iload_n 1, 1) := by decide +kernel
theorem dX11_frees_5 : decode cX11_frees 5 = .ok (.iconst 1, 1) := by decide +kernel
theorem dX11_frees_6 : decode cX11_frees 6 = .ok (.invokestatic 53, 3) := by decide +kernel
theorem dX11_frees_9 : decode cX11_frees 9 = .ok (.iconst 0, 1) := by decide +kernel
theorem dX11_frees_10 : decode cX11_frees 10 = .ok (.iastore, 1) := by decide +kernel
theorem dX11_frees_11 : decode cX11_frees 11 = .ok (.return_, 1) := by decide +kernel
theorem dX11_build_0 : decode cX11_build 0 = .ok (.aload_n 0, 1) := by decide +kernel
theorem dX11_build_1 : decode cX11_build 1 = .ok (.iload_n 1, 1) := by decide +kernel
theorem dX11_build_2 : decode cX11_build 2 = .ok (.invokevirtual 319, 3) := by decide +kernel
theorem dX11_build_5 : decode cX11_build 5 = .ok (.ifCond .ne 26, 3) := by decide +kernel
theorem dX11_build_8 : decode cX11_build 8 = .ok (.aload_n 0, 1) := by decide +kernel
theorem dX11_build_9 : decode cX11_build 9 = .ok (.aload_n 0, 1) := by decide +kernel
theorem dX11_build_10 : decode cX11_build 10 = .ok (.getfield 22, 3) := by decide +kernel
theorem dX11_build_13 : decode cX11_build 13 = .ok (.iconst 0, 1) := by decide +kernel
theorem dX11_build_14 : decode cX11_build 14 = .ok (.iaload, 1) := by decide +kernel
theorem dX11_build_15 : decode cX11_build 15 = .ok (.iconst 2, 1) := by decide +kernel
theorem dX11_build_16 : decode cX11_build 16 = .ok (.if_icmp .ge 7, 3) := by decide +kernel
theorem dX11_build_19 : decode cX11_build 19 = .ok (.iconst 1, 1) := by decide +kernel
theorem dX11_build_20 : decode cX11_build 20 = .ok (.goto 4, 3) := by decide +kernel
theorem dX11_build_23 : decode cX11_build 23 = .ok (.iconst 0, 1) := by decide +kernel
theorem dX11_build_24 : decode cX11_build 24 = .ok (.iconst 2, 1) := by decide +kernel
theorem dX11_build_25 : decode cX11_build 25 = .ok (.invokevirtual 309, 3) := by decide +kernel
theorem dX11_build_28 : decode cX11_build 28 = .ok (.ifCond .eq 5, 3) := by decide +kernel
theorem dX11_build_31 : decode cX11_build 31 = .ok (.iconst 0, 1) := by decide +kernel
theorem dX11_build_32 : decode cX11_build 32 = .ok (.ireturn, 1) := by decide +kernel
theorem dX11_build_33 : decode cX11_build 33 = .ok (.aload_n 0, 1) := by decide +kernel
theorem dX11_build_34 : decode cX11_build 34 = .ok (.iload_n 1, 1) := by decide +kernel
theorem dX11_build_35 : decode cX11_build 35 = .ok (.invokevirtual 387, 3) := by decide +kernel
theorem dX11_build_38 : decode cX11_build 38 = .ok (.aload_n 0, 1) := by decide +kernel
theorem dX11_build_39 : decode cX11_build 39 = .ok (.getfield 249, 3) := by decide +kernel
theorem dX11_build_42 : decode cX11_build 42 = .ok (.lconst 0, 1) := by decide +kernel
theorem dX11_build_43 : decode cX11_build 43 = .ok (.lcmp, 1) := by decide +kernel
theorem dX11_build_44 : decode cX11_build 44 = .ok (.ifCond .ge 7, 3) := by decide +kernel
theorem dX11_build_47 : decode cX11_build 47 = .ok (.iconst 1, 1) := by decide +kernel
theorem dX11_build_48 : decode cX11_build 48 = .ok (.goto 4, 3) := by decide +kernel
theorem dX11_build_51 : decode cX11_build 51 = .ok (.iconst 0, 1) := by decide +kernel
theorem dX11_build_52 : decode cX11_build 52 = .ok (.istore_n 2, 1) := by decide +kernel
theorem dX11_build_53 : decode cX11_build 53 = .ok (.aload_n 0, 1) := by decide +kernel
theorem dX11_build_54 : decode cX11_build 54 = .ok (.invokevirtual 392, 3) := by decide +kernel
theorem dX11_build_57 : decode cX11_build 57 = .ok (.aload_n 0, 1) := by decide +kernel
theorem dX11_build_58 : decode cX11_build 58 = .ok (.getfield 22, 3) := by decide +kernel
theorem dX11_build_61 : decode cX11_build 61 = .ok (.iload_n 1, 1) := by decide +kernel
theorem dX11_build_62 : decode cX11_build 62 = .ok (.iconst 0, 1) := by decide +kernel
theorem dX11_build_63 : decode cX11_build 63 = .ok (.invokestatic 53, 3) := by decide +kernel
theorem dX11_build_66 : decode cX11_build 66 = .ok (.iconst 0, 1) := by decide +kernel
theorem dX11_build_67 : decode cX11_build 67 = .ok (.iastore, 1) := by decide +kernel
theorem dX11_build_68 : decode cX11_build 68 = .ok (.aload_n 0, 1) := by decide +kernel
theorem dX11_build_69 : decode cX11_build 69 = .ok (.iload_n 1, 1) := by decide +kernel
theorem dX11_build_70 : decode cX11_build 70 = .ok (.iconst 0, 1) := by decide +kernel
theorem dX11_build_71 : decode cX11_build 71 = .ok (.aload_n 0, 1) := by decide +kernel
theorem dX11_build_72 : decode cX11_build 72 = .ok (.getfield 41, 3) := by decide +kernel
theorem dX11_build_75 : decode cX11_build 75 = .ok (.iconst 0, 1) := by decide +kernel
theorem dX11_build_76 : decode cX11_build 76 = .ok (.iaload, 1) := by decide +kernel
theorem dX11_build_77 : decode cX11_build 77 = .ok (.aload_n 0, 1) := by decide +kernel
theorem dX11_build_78 : decode cX11_build 78 = .ok (.getfield 41, 3) := by decide +kernel
theorem dX11_build_81 : decode cX11_build 81 = .ok (.iconst 1, 1) := by decide +kernel
theorem dX11_build_82 : decode cX11_build 82 = .ok (.iaload, 1) := by decide +kernel
theorem dX11_build_83 : decode cX11_build 83 = .ok (.invokevirtual 204, 3) := by decide +kernel
theorem dX11_build_86 : decode cX11_build 86 = .ok (.aload_n 0, 1) := by decide +kernel
theorem dX11_build_87 : decode cX11_build 87 = .ok (.iload_n 1, 1) := by decide +kernel
theorem dX11_build_88 : decode cX11_build 88 = .ok (.iconst 0, 1) := by decide +kernel
theorem dX11_build_89 : decode cX11_build 89 = .ok (.aload_n 0, 1) := by decide +kernel
theorem dX11_build_90 : decode cX11_build 90 = .ok (.getfield 41, 3) := by decide +kernel
theorem dX11_build_93 : decode cX11_build 93 = .ok (.iconst 2, 1) := by decide +kernel
theorem dX11_build_94 : decode cX11_build 94 = .ok (.iaload, 1) := by decide +kernel
theorem dX11_build_95 : decode cX11_build 95 = .ok (.aload_n 0, 1) := by decide +kernel
theorem dX11_build_96 : decode cX11_build 96 = .ok (.getfield 41, 3) := by decide +kernel
theorem dX11_build_99 : decode cX11_build 99 = .ok (.iconst 3, 1) := by decide +kernel
theorem dX11_build_100 : decode cX11_build 100 = .ok (.iaload, 1) := by decide +kernel
theorem dX11_build_101 : decode cX11_build 101 = .ok (.invokevirtual 204, 3) := by decide +kernel
theorem dX11_build_104 : decode cX11_build 104 = .ok (.iload_n 2, 1) := by decide +kernel
theorem dX11_build_105 : decode cX11_build 105 = .ok (.ifCond .eq 16, 3) := by decide +kernel
theorem dX11_build_108 : decode cX11_build 108 = .ok (.aload_n 0, 1) := by decide +kernel
theorem dX11_build_109 : decode cX11_build 109 = .ok (.iload_n 1, 1) := by decide +kernel
theorem dX11_build_110 : decode cX11_build 110 = .ok (.iconst 2, 1) := by decide +kernel
theorem dX11_build_111 : decode cX11_build 111 = .ok (.aload_n 0, 1) := by decide +kernel
theorem dX11_build_112 : decode cX11_build 112 = .ok (.getfield 22, 3) := by decide +kernel
theorem dX11_build_115 : decode cX11_build 115 = .ok (.iconst 1, 1) := by decide +kernel
theorem dX11_build_116 : decode cX11_build 116 = .ok (.iaload, 1) := by decide +kernel
theorem dX11_build_117 : decode cX11_build 117 = .ok (.iconst 0, 1) := by decide +kernel
theorem dX11_build_118 : decode cX11_build 118 = .ok (.invokevirtual 204, 3) := by decide +kernel
theorem dX11_build_121 : decode cX11_build 121 = .ok (.aload_n 0, 1) := by decide +kernel
theorem dX11_build_122 : decode cX11_build 122 = .ok (.iload_n 1, 1) := by decide +kernel
theorem dX11_build_123 : decode cX11_build 123 = .ok (.invokevirtual 395, 3) := by decide +kernel
theorem dX11_build_126 : decode cX11_build 126 = .ok (.aload_n 0, 1) := by decide +kernel
theorem dX11_build_127 : decode cX11_build 127 = .ok (.iload_n 1, 1) := by decide +kernel
theorem dX11_build_128 : decode cX11_build 128 = .ok (.invokevirtual 188, 3) := by decide +kernel
theorem dX11_build_131 : decode cX11_build 131 = .ok (.ireturn, 1) := by decide +kernel
theorem dX11_isPart_0 : decode cX11_isPart 0 = .ok (.iload_n 0, 1) := by decide +kernel
theorem dX11_isPart_1 : decode cX11_isPart 1 = .ok (.i2l, 1) := by decide +kernel
theorem dX11_isPart_2 : decode cX11_isPart 2 = .ok (.lconst 0, 1) := by decide +kernel
theorem dX11_isPart_3 : decode cX11_isPart 3 = .ok (.ldc2_w 256, 3) := by decide +kernel
theorem dX11_isPart_6 : decode cX11_isPart 6 = .ok (.invokestatic 71, 3) := by decide +kernel
theorem dX11_isPart_9 : decode cX11_isPart 9 = .ok (.ifCond .eq 47, 3) := by decide +kernel
theorem dX11_isPart_12 : decode cX11_isPart 12 = .ok (.iload_n 1, 1) := by decide +kernel
theorem dX11_isPart_13 : decode cX11_isPart 13 = .ok (.i2l, 1) := by decide +kernel
theorem dX11_isPart_14 : decode cX11_isPart 14 = .ok (.ldc2_w 398, 3) := by decide +kernel
theorem dX11_isPart_17 : decode cX11_isPart 17 = .ok (.ldc2_w 273, 3) := by decide +kernel
theorem dX11_isPart_20 : decode cX11_isPart 20 = .ok (.invokestatic 71, 3) := by decide +kernel
theorem dX11_isPart_23 : decode cX11_isPart 23 = .ok (.ifCond .eq 33, 3) := by decide +kernel
theorem dX11_isPart_26 : decode cX11_isPart 26 = .ok (.iload_n 0, 1) := by decide +kernel
theorem dX11_isPart_27 : decode cX11_isPart 27 = .ok (.iconst 2, 1) := by decide +kernel
theorem dX11_isPart_28 : decode cX11_isPart 28 = .ok (.if_icmp .ne 10, 3) := by decide +kernel
theorem dX11_isPart_31 : decode cX11_isPart 31 = .ok (.iload_n 2, 1) := by decide +kernel
theorem dX11_isPart_32 : decode cX11_isPart 32 = .ok (.ifCond .ne 24, 3) := by decide +kernel
theorem dX11_isPart_35 : decode cX11_isPart 35 = .ok (.goto 17, 3) := by decide +kernel
theorem dX11_isPart_38 : decode cX11_isPart 38 = .ok (.iload_n 2, 1) := by decide +kernel
theorem dX11_isPart_39 : decode cX11_isPart 39 = .ok (.i2l, 1) := by decide +kernel
theorem dX11_isPart_40 : decode cX11_isPart 40 = .ok (.ldc2_w 398, 3) := by decide +kernel
theorem dX11_isPart_43 : decode cX11_isPart 43 = .ok (.ldc2_w 273, 3) := by decide +kernel
theorem dX11_isPart_46 : decode cX11_isPart 46 = .ok (.invokestatic 71, 3) := by decide +kernel
theorem dX11_isPart_49 : decode cX11_isPart 49 = .ok (.ifCond .eq 7, 3) := by decide +kernel
theorem dX11_isPart_52 : decode cX11_isPart 52 = .ok (.iconst 1, 1) := by decide +kernel
theorem dX11_isPart_53 : decode cX11_isPart 53 = .ok (.goto 4, 3) := by decide +kernel
theorem dX11_isPart_56 : decode cX11_isPart 56 = .ok (.iconst 0, 1) := by decide +kernel
theorem dX11_isPart_57 : decode cX11_isPart 57 = .ok (.ireturn, 1) := by decide +kernel
theorem dX11_addPart_0 : decode cX11_addPart 0 = .ok (.aload_n 0, 1) := by decide +kernel
theorem dX11_addPart_1 : decode cX11_addPart 1 = .ok (.iload_n 1, 1) := by decide +kernel
theorem dX11_addPart_2 : decode cX11_addPart 2 = .ok (.invokevirtual 319, 3) := by decide +kernel
theorem dX11_addPart_5 : decode cX11_addPart 5 = .ok (.ifCond .ne 48, 3) := by decide +kernel
theorem dX11_addPart_8 : decode cX11_addPart 8 = .ok (.aload_n 0, 1) := by decide +kernel
theorem dX11_addPart_9 : decode cX11_addPart 9 = .ok (.iload_n 2, 1) := by decide +kernel
theorem dX11_addPart_10 : decode cX11_addPart 10 = .ok (.iload_n 3, 1) := by decide +kernel
theorem dX11_addPart_11 : decode cX11_addPart 11 = .ok (.iload 4, 2) := by decide +kernel
theorem dX11_addPart_13 : decode cX11_addPart 13 = .ok (.invokestatic 400, 3) := by decide +kernel
theorem dX11_addPart_16 : decode cX11_addPart 16 = .ok (.ifCond .ne 7, 3) := by decide +kernel
theorem dX11_addPart_19 : decode cX11_addPart 19 = .ok (.iconst 1, 1) := by decide +kernel
theorem dX11_addPart_20 : decode cX11_addPart 20 = .ok (.goto 4, 3) := by decide +kernel
theorem dX11_addPart_23 : decode cX11_addPart 23 = .ok (.iconst 0, 1) := by decide +kernel
theorem dX11_addPart_24 : decode cX11_addPart 24 = .ok (.iconst 2, 1) := by decide +kernel
theorem dX11_addPart_25 : decode cX11_addPart 25 = .ok (.invokevirtual 309, 3) := by decide +kernel
theorem dX11_addPart_28 : decode cX11_addPart 28 = .ok (.ifCond .ne 25, 3) := by decide +kernel
theorem dX11_addPart_31 : decode cX11_addPart 31 = .ok (.aload_n 0, 1) := by decide +kernel
theorem dX11_addPart_32 : decode cX11_addPart 32 = .ok (.aload_n 0, 1) := by decide +kernel
theorem dX11_addPart_33 : decode cX11_addPart 33 = .ok (.iload_n 1, 1) := by decide +kernel
theorem dX11_addPart_34 : decode cX11_addPart 34 = .ok (.iload_n 2, 1) := by decide +kernel
theorem dX11_addPart_35 : decode cX11_addPart 35 = .ok (.invokevirtual 201, 3) := by decide +kernel
theorem dX11_addPart_38 : decode cX11_addPart 38 = .ok (.ifCond .ne 7, 3) := by decide +kernel
theorem dX11_addPart_41 : decode cX11_addPart 41 = .ok (.iconst 1, 1) := by decide +kernel
theorem dX11_addPart_42 : decode cX11_addPart 42 = .ok (.goto 4, 3) := by decide +kernel
theorem dX11_addPart_45 : decode cX11_addPart 45 = .ok (.iconst 0, 1) := by decide +kernel
theorem dX11_addPart_46 : decode cX11_addPart 46 = .ok (.iconst 3, 1) := by decide +kernel
theorem dX11_addPart_47 : decode cX11_addPart 47 = .ok (.invokevirtual 309, 3) := by decide +kernel
theorem dX11_addPart_50 : decode cX11_addPart 50 = .ok (.ifCond .eq 5, 3) := by decide +kernel
theorem dX11_addPart_53 : decode cX11_addPart 53 = .ok (.iconst 0, 1) := by decide +kernel
theorem dX11_addPart_54 : decode cX11_addPart 54 = .ok (.ireturn, 1) := by decide +kernel
theorem dX11_addPart_55 : decode cX11_addPart 55 = .ok (.aload_n 0, 1) := by decide +kernel
theorem dX11_addPart_56 : decode cX11_addPart 56 = .ok (.invokevirtual 392, 3) := by decide +kernel
theorem dX11_addPart_59 : decode cX11_addPart 59 = .ok (.aload_n 0, 1) := by decide +kernel
theorem dX11_addPart_60 : decode cX11_addPart 60 = .ok (.iload_n 1, 1) := by decide +kernel
theorem dX11_addPart_61 : decode cX11_addPart 61 = .ok (.iload_n 2, 1) := by decide +kernel
theorem dX11_addPart_62 : decode cX11_addPart 62 = .ok (.iload_n 3, 1) := by decide +kernel
theorem dX11_addPart_63 : decode cX11_addPart 63 = .ok (.iload 4, 2) := by decide +kernel
theorem dX11_addPart_65 : decode cX11_addPart 65 = .ok (.invokevirtual 204, 3) := by decide +kernel
theorem dX11_addPart_68 : decode cX11_addPart 68 = .ok (.aload_n 0, 1) := by decide +kernel
theorem dX11_addPart_69 : decode cX11_addPart 69 = .ok (.iload_n 1, 1) := by decide +kernel
theorem dX11_addPart_70 : decode cX11_addPart 70 = .ok (.invokevirtual 395, 3) := by decide +kernel
theorem dX11_addPart_73 : decode cX11_addPart 73 = .ok (.aload_n 0, 1) := by decide +kernel
theorem dX11_addPart_74 : decode cX11_addPart 74 = .ok (.iload_n 1, 1) := by decide +kernel
theorem dX11_addPart_75 : decode cX11_addPart 75 = .ok (.invokevirtual 188, 3) := by decide +kernel
theorem dX11_addPart_78 : decode cX11_addPart 78 = .ok (.ireturn, 1) := by decide +kernel
theorem dX11_removePart_0 : decode cX11_removePart 0 = .ok (.aload_n 0, 1) := by decide +kernel
theorem dX11_removePart_1 : decode cX11_removePart 1 = .ok (.iload_n 1, 1) := by decide +kernel
theorem dX11_removePart_2 : decode cX11_removePart 2 = .ok (.invokevirtual 319, 3) := by decide +kernel
theorem dX11_removePart_5 : decode cX11_removePart 5 = .ok (.ifCond .ne 24, 3) := by decide +kernel
theorem dX11_removePart_8 : decode cX11_removePart 8 = .ok (.aload_n 0, 1) := by decide +kernel
theorem dX11_removePart_9 : decode cX11_removePart 9 = .ok (.aload_n 0, 1) := by decide +kernel
theorem dX11_removePart_10 : decode cX11_removePart 10 = .ok (.iload_n 1, 1) := by decide +kernel
theorem dX11_removePart_11 : decode cX11_removePart 11 = .ok (.invokevirtual 188, 3) := by decide +kernel
theorem dX11_removePart_14 : decode cX11_removePart 14 = .ok (.ifCond .ne 7, 3) := by decide +kernel
theorem dX11_removePart_17 : decode cX11_removePart 17 = .ok (.iconst 1, 1) := by decide +kernel
theorem dX11_removePart_18 : decode cX11_removePart 18 = .ok (.goto 4, 3) := by decide +kernel
theorem dX11_removePart_21 : decode cX11_removePart 21 = .ok (.iconst 0, 1) := by decide +kernel
theorem dX11_removePart_22 : decode cX11_removePart 22 = .ok (.iconst 2, 1) := by decide +kernel
theorem dX11_removePart_23 : decode cX11_removePart 23 = .ok (.invokevirtual 309, 3) := by decide +kernel
theorem dX11_removePart_26 : decode cX11_removePart 26 = .ok (.ifCond .eq 5, 3) := by decide +kernel
theorem dX11_removePart_29 : decode cX11_removePart 29 = .ok (.iconst 0, 1) := by decide +kernel
theorem dX11_removePart_30 : decode cX11_removePart 30 = .ok (.ireturn, 1) := by decide +kernel
theorem dX11_removePart_31 : decode cX11_removePart 31 = .ok (.aload_n 0, 1) := by decide +kernel
theorem dX11_removePart_32 : decode cX11_removePart 32 = .ok (.invokevirtual 392, 3) := by decide +kernel
theorem dX11_removePart_35 : decode cX11_removePart 35 = .ok (.aload_n 0, 1) := by decide +kernel
theorem dX11_removePart_36 : decode cX11_removePart 36 = .ok (.getfield 22, 3) := by decide +kernel
theorem dX11_removePart_39 : decode cX11_removePart 39 = .ok (.iload_n 1, 1) := by decide +kernel
theorem dX11_removePart_40 : decode cX11_removePart 40 = .ok (.iconst 0, 1) := by decide +kernel
theorem dX11_removePart_41 : decode cX11_removePart 41 = .ok (.invokestatic 53, 3) := by decide +kernel
theorem dX11_removePart_44 : decode cX11_removePart 44 = .ok (.dup2, 1) := by decide +kernel
theorem dX11_removePart_45 : decode cX11_removePart 45 = .ok (.iaload, 1) := by decide +kernel
theorem dX11_removePart_46 : decode cX11_removePart 46 = .ok (.iconst 1, 1) := by decide +kernel
theorem dX11_removePart_47 : decode cX11_removePart 47 = .ok (.isub, 1) := by decide +kernel
theorem dX11_removePart_48 : decode cX11_removePart 48 = .ok (.iastore, 1) := by decide +kernel
theorem dX11_removePart_49 : decode cX11_removePart 49 = .ok (.aload_n 0, 1) := by decide +kernel
theorem dX11_removePart_50 : decode cX11_removePart 50 = .ok (.iload_n 1, 1) := by decide +kernel
theorem dX11_removePart_51 : decode cX11_removePart 51 = .ok (.invokevirtual 395, 3) := by decide +kernel
theorem dX11_removePart_54 : decode cX11_removePart 54 = .ok (.aload_n 0, 1) := by decide +kernel
theorem dX11_removePart_55 : decode cX11_removePart 55 = .ok (.iload_n 1, 1) := by decide +kernel
theorem dX11_removePart_56 : decode cX11_removePart 56 = .ok (.invokevirtual 188, 3) := by decide +kernel
theorem dX11_removePart_59 : decode cX11_removePart 59 = .ok (.ireturn, 1) := by decide +kernel
theorem dX11_addStock_0 : decode cX11_addStock 0 = .ok (.aload_n 0, 1) := by decide +kernel
theorem dX11_addStock_1 : decode cX11_addStock 1 = .ok (.iconst 0, 1) := by decide +kernel
theorem dX11_addStock_2 : decode cX11_addStock 2 = .ok (.putfield 50, 3) := by decide +kernel
theorem dX11_addStock_5 : decode cX11_addStock 5 = .ok (.aload_n 0, 1) := by decide +kernel
theorem dX11_addStock_6 : decode cX11_addStock 6 = .ok (.iload_n 1, 1) := by decide +kernel
theorem dX11_addStock_7 : decode cX11_addStock 7 = .ok (.i2l, 1) := by decide +kernel
theorem dX11_addStock_8 : decode cX11_addStock 8 = .ok (.ldc2_w 398, 3) := by decide +kernel
theorem dX11_addStock_11 : decode cX11_addStock 11 = .ok (.ldc2_w 273, 3) := by decide +kernel
theorem dX11_addStock_14 : decode cX11_addStock 14 = .ok (.invokestatic 71, 3) := by decide +kernel
theorem dX11_addStock_17 : decode cX11_addStock 17 = .ok (.ifCond .ne 7, 3) := by decide +kernel
theorem dX11_addStock_20 : decode cX11_addStock 20 = .ok (.iconst 1, 1) := by decide +kernel
theorem dX11_addStock_21 : decode cX11_addStock 21 = .ok (.goto 4, 3) := by decide +kernel
theorem dX11_addStock_24 : decode cX11_addStock 24 = .ok (.iconst 0, 1) := by decide +kernel
theorem dX11_addStock_25 : decode cX11_addStock 25 = .ok (.iconst 1, 1) := by decide +kernel
theorem dX11_addStock_26 : decode cX11_addStock 26 = .ok (.invokevirtual 309, 3) := by decide +kernel
theorem dX11_addStock_29 : decode cX11_addStock 29 = .ok (.ifCond .ne 35, 3) := by decide +kernel
theorem dX11_addStock_32 : decode cX11_addStock 32 = .ok (.aload_n 0, 1) := by decide +kernel
theorem dX11_addStock_33 : decode cX11_addStock 33 = .ok (.aload_n 0, 1) := by decide +kernel
theorem dX11_addStock_34 : decode cX11_addStock 34 = .ok (.iload_n 1, 1) := by decide +kernel
theorem dX11_addStock_35 : decode cX11_addStock 35 = .ok (.invokevirtual 172, 3) := by decide +kernel
theorem dX11_addStock_38 : decode cX11_addStock 38 = .ok (.ifCond .ne 14, 3) := by decide +kernel
theorem dX11_addStock_41 : decode cX11_addStock 41 = .ok (.aload_n 0, 1) := by decide +kernel
theorem dX11_addStock_42 : decode cX11_addStock 42 = .ok (.getfield 22, 3) := by decide +kernel
theorem dX11_addStock_45 : decode cX11_addStock 45 = .ok (.iconst 0, 1) := by decide +kernel
theorem dX11_addStock_46 : decode cX11_addStock 46 = .ok (.iaload, 1) := by decide +kernel
theorem dX11_addStock_47 : decode cX11_addStock 47 = .ok (.bipush 16, 2) := by decide +kernel
theorem dX11_addStock_49 : decode cX11_addStock 49 = .ok (.if_icmp .ne 7, 3) := by decide +kernel
theorem dX11_addStock_52 : decode cX11_addStock 52 = .ok (.iconst 1, 1) := by decide +kernel
theorem dX11_addStock_53 : decode cX11_addStock 53 = .ok (.goto 4, 3) := by decide +kernel
theorem dX11_addStock_56 : decode cX11_addStock 56 = .ok (.iconst 0, 1) := by decide +kernel
theorem dX11_addStock_57 : decode cX11_addStock 57 = .ok (.iconst 2, 1) := by decide +kernel
theorem dX11_addStock_58 : decode cX11_addStock 58 = .ok (.invokevirtual 309, 3) := by decide +kernel
theorem dX11_addStock_61 : decode cX11_addStock 61 = .ok (.ifCond .eq 5, 3) := by decide +kernel
theorem dX11_addStock_64 : decode cX11_addStock 64 = .ok (.iconst 0, 1) := by decide +kernel
theorem dX11_addStock_65 : decode cX11_addStock 65 = .ok (.ireturn, 1) := by decide +kernel
theorem dX11_addStock_66 : decode cX11_addStock 66 = .ok (.aload_n 0, 1) := by decide +kernel
theorem dX11_addStock_67 : decode cX11_addStock 67 = .ok (.invokevirtual 392, 3) := by decide +kernel
theorem dX11_addStock_70 : decode cX11_addStock 70 = .ok (.aload_n 0, 1) := by decide +kernel
theorem dX11_addStock_71 : decode cX11_addStock 71 = .ok (.iload_n 1, 1) := by decide +kernel
theorem dX11_addStock_72 : decode cX11_addStock 72 = .ok (.invokevirtual 175, 3) := by decide +kernel
theorem dX11_addStock_75 : decode cX11_addStock 75 = .ok (.aload_n 0, 1) := by decide +kernel
theorem dX11_addStock_76 : decode cX11_addStock 76 = .ok (.getfield 22, 3) := by decide +kernel
theorem dX11_addStock_79 : decode cX11_addStock 79 = .ok (.iconst 0, 1) := by decide +kernel
theorem dX11_addStock_80 : decode cX11_addStock 80 = .ok (.iaload, 1) := by decide +kernel
theorem dX11_addStock_81 : decode cX11_addStock 81 = .ok (.ireturn, 1) := by decide +kernel
theorem dX11_removeStock_0 : decode cX11_removeStock 0 = .ok (.aload_n 0, 1) := by decide +kernel
theorem dX11_removeStock_1 : decode cX11_removeStock 1 = .ok (.iconst 0, 1) := by decide +kernel
theorem dX11_removeStock_2 : decode cX11_removeStock 2 = .ok (.putfield 50, 3) := by decide +kernel
theorem dX11_removeStock_5 : decode cX11_removeStock 5 = .ok (.aload_n 0, 1) := by decide +kernel
theorem dX11_removeStock_6 : decode cX11_removeStock 6 = .ok (.iload_n 1, 1) := by decide +kernel
theorem dX11_removeStock_7 : decode cX11_removeStock 7 = .ok (.invokevirtual 172, 3) := by decide +kernel
theorem dX11_removeStock_10 : decode cX11_removeStock 10 = .ok (.ifCond .ne 5, 3) := by decide +kernel
theorem dX11_removeStock_13 : decode cX11_removeStock 13 = .ok (.iconst 0, 1) := by decide +kernel
theorem dX11_removeStock_14 : decode cX11_removeStock 14 = .ok (.ireturn, 1) := by decide +kernel
theorem dX11_removeStock_15 : decode cX11_removeStock 15 = .ok (.aload_n 0, 1) := by decide +kernel
theorem dX11_removeStock_16 : decode cX11_removeStock 16 = .ok (.invokevirtual 392, 3) := by decide +kernel
theorem dX11_removeStock_19 : decode cX11_removeStock 19 = .ok (.iconst 0, 1) := by decide +kernel
theorem dX11_removeStock_20 : decode cX11_removeStock 20 = .ok (.istore_n 2, 1) := by decide +kernel
theorem dX11_removeStock_21 : decode cX11_removeStock 21 = .ok (.aload_n 0, 1) := by decide +kernel
theorem dX11_removeStock_22 : decode cX11_removeStock 22 = .ok (.getfield 22, 3) := by decide +kernel
theorem dX11_removeStock_25 : decode cX11_removeStock 25 = .ok (.iconst 1, 1) := by decide +kernel
theorem dX11_removeStock_26 : decode cX11_removeStock 26 = .ok (.iload_n 2, 1) := by decide +kernel
theorem dX11_removeStock_27 : decode cX11_removeStock 27 = .ok (.iadd, 1) := by decide +kernel
theorem dX11_removeStock_28 : decode cX11_removeStock 28 = .ok (.iaload, 1) := by decide +kernel
theorem dX11_removeStock_29 : decode cX11_removeStock 29 = .ok (.iload_n 1, 1) := by decide +kernel
theorem dX11_removeStock_30 : decode cX11_removeStock 30 = .ok (.if_icmp .eq 9, 3) := by decide +kernel
theorem dX11_removeStock_33 : decode cX11_removeStock 33 = .ok (.iinc 2 1, 3) := by decide +kernel
theorem dX11_removeStock_36 : decode cX11_removeStock 36 = .ok (.goto (-15), 3) := by decide +kernel
theorem dX11_removeStock_39 : decode cX11_removeStock 39 = .ok (.aload_n 0, 1) := by decide +kernel
theorem dX11_removeStock_40 : decode cX11_removeStock 40 = .ok (.getfield 22, 3) := by decide +kernel
theorem dX11_removeStock_43 : decode cX11_removeStock 43 = .ok (.iconst 0, 1) := by decide +kernel
theorem dX11_removeStock_44 : decode cX11_removeStock 44 = .ok (.dup2, 1) := by decide +kernel
theorem dX11_removeStock_45 : decode cX11_removeStock 45 = .ok (.iaload, 1) := by decide +kernel
theorem dX11_removeStock_46 : decode cX11_removeStock 46 = .ok (.iconst 1, 1) := by decide +kernel
theorem dX11_removeStock_47 : decode cX11_removeStock 47 = .ok (.isub, 1) := by decide +kernel
theorem dX11_removeStock_48 : decode cX11_removeStock 48 = .ok (.iastore, 1) := by decide +kernel
theorem dX11_removeStock_49 : decode cX11_removeStock 49 = .ok (.iload_n 2, 1) := by decide +kernel
theorem dX11_removeStock_50 : decode cX11_removeStock 50 = .ok (.aload_n 0, 1) := by decide +kernel
theorem dX11_removeStock_51 : decode cX11_removeStock 51 = .ok (.getfield 22, 3) := by decide +kernel
theorem dX11_removeStock_54 : decode cX11_removeStock 54 = .ok (.iconst 0, 1) := by decide +kernel
theorem dX11_removeStock_55 : decode cX11_removeStock 55 = .ok (.iaload, 1) := by decide +kernel
theorem dX11_removeStock_56 : decode cX11_removeStock 56 = .ok (.if_icmp .ge 27, 3) := by decide +kernel
theorem dX11_removeStock_59 : decode cX11_removeStock 59 = .ok (.aload_n 0, 1) := by decide +kernel
theorem dX11_removeStock_60 : decode cX11_removeStock 60 = .ok (.getfield 22, 3) := by decide +kernel
theorem dX11_removeStock_63 : decode cX11_removeStock 63 = .ok (.iconst 1, 1) := by decide +kernel
theorem dX11_removeStock_64 : decode cX11_removeStock 64 = .ok (.iload_n 2, 1) := by decide +kernel
theorem dX11_removeStock_65 : decode cX11_removeStock 65 = .ok (.iadd, 1) := by decide +kernel
theorem dX11_removeStock_66 : decode cX11_removeStock 66 = .ok (.aload_n 0, 1) := by decide +kernel
theorem dX11_removeStock_67 : decode cX11_removeStock 67 = .ok (.getfield 22, 3) := by decide +kernel
theorem dX11_removeStock_70 : decode cX11_removeStock 70 = .ok (.iconst 1, 1) := by decide +kernel
theorem dX11_removeStock_71 : decode cX11_removeStock 71 = .ok (.iload_n 2, 1) := by decide +kernel
theorem dX11_removeStock_72 : decode cX11_removeStock 72 = .ok (.iadd, 1) := by decide +kernel
theorem dX11_removeStock_73 : decode cX11_removeStock 73 = .ok (.iconst 1, 1) := by decide +kernel
theorem dX11_removeStock_74 : decode cX11_removeStock 74 = .ok (.iadd, 1) := by decide +kernel
theorem dX11_removeStock_75 : decode cX11_removeStock 75 = .ok (.iaload, 1) := by decide +kernel
theorem dX11_removeStock_76 : decode cX11_removeStock 76 = .ok (.iastore, 1) := by decide +kernel
theorem dX11_removeStock_77 : decode cX11_removeStock 77 = .ok (.iinc 2 1, 3) := by decide +kernel
theorem dX11_removeStock_80 : decode cX11_removeStock 80 = .ok (.goto (-31), 3) := by decide +kernel
theorem dX11_removeStock_83 : decode cX11_removeStock 83 = .ok (.iconst 1, 1) := by decide +kernel
theorem dX11_removeStock_84 : decode cX11_removeStock 84 = .ok (.ireturn, 1) := by decide +kernel
theorem dX11_setSlack_0 : decode cX11_setSlack 0 = .ok (.aload_n 0, 1) := by decide +kernel
theorem dX11_setSlack_1 : decode cX11_setSlack 1 = .ok (.iconst 0, 1) := by decide +kernel
theorem dX11_setSlack_2 : decode cX11_setSlack 2 = .ok (.putfield 50, 3) := by decide +kernel
theorem dX11_setSlack_5 : decode cX11_setSlack 5 = .ok (.aload_n 0, 1) := by decide +kernel
theorem dX11_setSlack_6 : decode cX11_setSlack 6 = .ok (.iload_n 1, 1) := by decide +kernel
theorem dX11_setSlack_7 : decode cX11_setSlack 7 = .ok (.i2l, 1) := by decide +kernel
theorem dX11_setSlack_8 : decode cX11_setSlack 8 = .ok (.lconst 0, 1) := by decide +kernel
theorem dX11_setSlack_9 : decode cX11_setSlack 9 = .ok (.ldc2_w 403, 3) := by decide +kernel
theorem dX11_setSlack_12 : decode cX11_setSlack 12 = .ok (.invokestatic 71, 3) := by decide +kernel
theorem dX11_setSlack_15 : decode cX11_setSlack 15 = .ok (.ifCond .ne 7, 3) := by decide +kernel
theorem dX11_setSlack_18 : decode cX11_setSlack 18 = .ok (.iconst 1, 1) := by decide +kernel
theorem dX11_setSlack_19 : decode cX11_setSlack 19 = .ok (.goto 4, 3) := by decide +kernel
theorem dX11_setSlack_22 : decode cX11_setSlack 22 = .ok (.iconst 0, 1) := by decide +kernel
theorem dX11_setSlack_23 : decode cX11_setSlack 23 = .ok (.iconst 1, 1) := by decide +kernel
theorem dX11_setSlack_24 : decode cX11_setSlack 24 = .ok (.invokevirtual 309, 3) := by decide +kernel
theorem dX11_setSlack_27 : decode cX11_setSlack 27 = .ok (.ifCond .eq 5, 3) := by decide +kernel
theorem dX11_setSlack_30 : decode cX11_setSlack 30 = .ok (.iconst 0, 1) := by decide +kernel
theorem dX11_setSlack_31 : decode cX11_setSlack 31 = .ok (.ireturn, 1) := by decide +kernel
theorem dX11_setSlack_32 : decode cX11_setSlack 32 = .ok (.aload_n 0, 1) := by decide +kernel
theorem dX11_setSlack_33 : decode cX11_setSlack 33 = .ok (.invokevirtual 392, 3) := by decide +kernel
theorem dX11_setSlack_36 : decode cX11_setSlack 36 = .ok (.aload_n 0, 1) := by decide +kernel
theorem dX11_setSlack_37 : decode cX11_setSlack 37 = .ok (.getfield 22, 3) := by decide +kernel
theorem dX11_setSlack_40 : decode cX11_setSlack 40 = .ok (.bipush 17, 2) := by decide +kernel
theorem dX11_setSlack_42 : decode cX11_setSlack 42 = .ok (.iaload, 1) := by decide +kernel
theorem dX11_setSlack_43 : decode cX11_setSlack 43 = .ok (.istore_n 2, 1) := by decide +kernel
theorem dX11_setSlack_44 : decode cX11_setSlack 44 = .ok (.aload_n 0, 1) := by decide +kernel
theorem dX11_setSlack_45 : decode cX11_setSlack 45 = .ok (.getfield 22, 3) := by decide +kernel
theorem dX11_setSlack_48 : decode cX11_setSlack 48 = .ok (.bipush 17, 2) := by decide +kernel
theorem dX11_setSlack_50 : decode cX11_setSlack 50 = .ok (.iload_n 1, 1) := by decide +kernel
theorem dX11_setSlack_51 : decode cX11_setSlack 51 = .ok (.iastore, 1) := by decide +kernel
theorem dX11_setSlack_52 : decode cX11_setSlack 52 = .ok (.iconst 0, 1) := by decide +kernel
theorem dX11_setSlack_53 : decode cX11_setSlack 53 = .ok (.istore_n 3, 1) := by decide +kernel
theorem dX11_setSlack_54 : decode cX11_setSlack 54 = .ok (.iload_n 3, 1) := by decide +kernel
theorem dX11_setSlack_55 : decode cX11_setSlack 55 = .ok (.aload_n 0, 1) := by decide +kernel
theorem dX11_setSlack_56 : decode cX11_setSlack 56 = .ok (.getfield 7, 3) := by decide +kernel
theorem dX11_setSlack_59 : decode cX11_setSlack 59 = .ok (.iconst 0, 1) := by decide +kernel
theorem dX11_setSlack_60 : decode cX11_setSlack 60 = .ok (.iaload, 1) := by decide +kernel
theorem dX11_setSlack_61 : decode cX11_setSlack 61 = .ok (.if_icmp .ge 14, 3) := by decide +kernel
theorem dX11_setSlack_64 : decode cX11_setSlack 64 = .ok (.aload_n 0, 1) := by decide +kernel
theorem dX11_setSlack_65 : decode cX11_setSlack 65 = .ok (.iload_n 3, 1) := by decide +kernel
theorem dX11_setSlack_66 : decode cX11_setSlack 66 = .ok (.invokevirtual 395, 3) := by decide +kernel
theorem dX11_setSlack_69 : decode cX11_setSlack 69 = .ok (.iinc 3 1, 3) := by decide +kernel
theorem dX11_setSlack_72 : decode cX11_setSlack 72 = .ok (.goto (-18), 3) := by decide +kernel
theorem dX11_setSlack_75 : decode cX11_setSlack 75 = .ok (.iload_n 2, 1) := by decide +kernel
theorem dX11_setSlack_76 : decode cX11_setSlack 76 = .ok (.ireturn, 1) := by decide +kernel
theorem dX11_turns_0 : decode cX11_turns 0 = .ok (.aload_n 0, 1) := by decide +kernel
theorem dX11_turns_1 : decode cX11_turns 1 = .ok (.iload_n 1, 1) := by decide +kernel
theorem dX11_turns_2 : decode cX11_turns 2 = .ok (.iload_n 3, 1) := by decide +kernel
theorem dX11_turns_3 : decode cX11_turns 3 = .ok (.invokevirtual 405, 3) := by decide +kernel
theorem dX11_turns_6 : decode cX11_turns 6 = .ok (.aload_n 0, 1) := by decide +kernel
theorem dX11_turns_7 : decode cX11_turns 7 = .ok (.iload_n 1, 1) := by decide +kernel
theorem dX11_turns_8 : decode cX11_turns 8 = .ok (.iload_n 2, 1) := by decide +kernel
theorem dX11_turns_9 : decode cX11_turns 9 = .ok (.invokevirtual 405, 3) := by decide +kernel
theorem dX11_turns_12 : decode cX11_turns 12 = .ok (.lsub, 1) := by decide +kernel
theorem dX11_turns_13 : decode cX11_turns 13 = .ok (.lstore 4, 2) := by decide +kernel
theorem dX11_turns_15 : decode cX11_turns 15 = .ok (.iload_n 1, 1) := by decide +kernel
theorem dX11_turns_16 : decode cX11_turns 16 = .ok (.iconst 1, 1) := by decide +kernel
theorem dX11_turns_17 : decode cX11_turns 17 = .ok (.invokestatic 53, 3) := by decide +kernel
theorem dX11_turns_20 : decode cX11_turns 20 = .ok (.istore 6, 2) := by decide +kernel
theorem dX11_turns_22 : decode cX11_turns 22 = .ok (.aload_n 0, 1) := by decide +kernel
theorem dX11_turns_23 : decode cX11_turns 23 = .ok (.getfield 22, 3) := by decide +kernel
theorem dX11_turns_26 : decode cX11_turns 26 = .ok (.iload 6, 2) := by decide +kernel
theorem dX11_turns_28 : decode cX11_turns 28 = .ok (.lconst 0, 1) := by decide +kernel
theorem dX11_turns_29 : decode cX11_turns 29 = .ok (.aload_n 0, 1) := by decide +kernel
theorem dX11_turns_30 : decode cX11_turns 30 = .ok (.iload_n 1, 1) := by decide +kernel
theorem dX11_turns_31 : decode cX11_turns 31 = .ok (.invokevirtual 408, 3) := by decide +kernel
theorem dX11_turns_34 : decode cX11_turns 34 = .ok (.i2l, 1) := by decide +kernel
theorem dX11_turns_35 : decode cX11_turns 35 = .ok (.aload_n 0, 1) := by decide +kernel
theorem dX11_turns_36 : decode cX11_turns 36 = .ok (.getfield 22, 3) := by decide +kernel
theorem dX11_turns_39 : decode cX11_turns 39 = .ok (.iload 6, 2) := by decide +kernel
theorem dX11_turns_41 : decode cX11_turns 41 = .ok (.iaload, 1) := by decide +kernel
theorem dX11_turns_42 : decode cX11_turns 42 = .ok (.i2l, 1) := by decide +kernel
theorem dX11_turns_43 : decode cX11_turns 43 = .ok (.lload 4, 2) := by decide +kernel
theorem dX11_turns_45 : decode cX11_turns 45 = .ok (.lsub, 1) := by decide +kernel
theorem dX11_turns_46 : decode cX11_turns 46 = .ok (.invokestatic 411, 3) := by decide +kernel
theorem dX11_turns_49 : decode cX11_turns 49 = .ok (.invokestatic 355, 3) := by decide +kernel
theorem dX11_turns_52 : decode cX11_turns 52 = .ok (.l2i, 1) := by decide +kernel
theorem dX11_turns_53 : decode cX11_turns 53 = .ok (.iastore, 1) := by decide +kernel
theorem dX11_turns_54 : decode cX11_turns 54 = .ok (.return_, 1) := by decide +kernel
theorem dX11_crank_0 : decode cX11_crank 0 = .ok (.aload_n 0, 1) := by decide +kernel
theorem dX11_crank_1 : decode cX11_crank 1 = .ok (.iconst 0, 1) := by decide +kernel
theorem dX11_crank_2 : decode cX11_crank 2 = .ok (.putfield 50, 3) := by decide +kernel
theorem dX11_crank_5 : decode cX11_crank 5 = .ok (.aload_n 0, 1) := by decide +kernel
theorem dX11_crank_6 : decode cX11_crank 6 = .ok (.iload_n 1, 1) := by decide +kernel
theorem dX11_crank_7 : decode cX11_crank 7 = .ok (.invokestatic 338, 3) := by decide +kernel
theorem dX11_crank_10 : decode cX11_crank 10 = .ok (.ifCond .ne 7, 3) := by decide +kernel
theorem dX11_crank_13 : decode cX11_crank 13 = .ok (.iconst 1, 1) := by decide +kernel
theorem dX11_crank_14 : decode cX11_crank 14 = .ok (.goto 4, 3) := by decide +kernel
theorem dX11_crank_17 : decode cX11_crank 17 = .ok (.iconst 0, 1) := by decide +kernel
theorem dX11_crank_18 : decode cX11_crank 18 = .ok (.iconst 1, 1) := by decide +kernel
theorem dX11_crank_19 : decode cX11_crank 19 = .ok (.invokevirtual 309, 3) := by decide +kernel
theorem dX11_crank_22 : decode cX11_crank 22 = .ok (.ifCond .eq 5, 3) := by decide +kernel
theorem dX11_crank_25 : decode cX11_crank 25 = .ok (.iconst 0, 1) := by decide +kernel
theorem dX11_crank_26 : decode cX11_crank 26 = .ok (.ireturn, 1) := by decide +kernel
theorem dX11_crank_27 : decode cX11_crank 27 = .ok (.aload_n 0, 1) := by decide +kernel
theorem dX11_crank_28 : decode cX11_crank 28 = .ok (.invokevirtual 392, 3) := by decide +kernel
theorem dX11_crank_31 : decode cX11_crank 31 = .ok (.aload_n 0, 1) := by decide +kernel
theorem dX11_crank_32 : decode cX11_crank 32 = .ok (.getfield 22, 3) := by decide +kernel
theorem dX11_crank_35 : decode cX11_crank 35 = .ok (.bipush 18, 2) := by decide +kernel
theorem dX11_crank_37 : decode cX11_crank 37 = .ok (.iaload, 1) := by decide +kernel
theorem dX11_crank_38 : decode cX11_crank 38 = .ok (.istore_n 2, 1) := by decide +kernel
theorem dX11_crank_39 : decode cX11_crank 39 = .ok (.iconst 0, 1) := by decide +kernel
theorem dX11_crank_40 : decode cX11_crank 40 = .ok (.istore_n 3, 1) := by decide +kernel
theorem dX11_crank_41 : decode cX11_crank 41 = .ok (.iload_n 3, 1) := by decide +kernel
theorem dX11_crank_42 : decode cX11_crank 42 = .ok (.aload_n 0, 1) := by decide +kernel
theorem dX11_crank_43 : decode cX11_crank 43 = .ok (.getfield 7, 3) := by decide +kernel
theorem dX11_crank_46 : decode cX11_crank 46 = .ok (.iconst 0, 1) := by decide +kernel
theorem dX11_crank_47 : decode cX11_crank 47 = .ok (.iaload, 1) := by decide +kernel
theorem dX11_crank_48 : decode cX11_crank 48 = .ok (.if_icmp .ge 16, 3) := by decide +kernel
theorem dX11_crank_51 : decode cX11_crank 51 = .ok (.aload_n 0, 1) := by decide +kernel
theorem dX11_crank_52 : decode cX11_crank 52 = .ok (.iload_n 3, 1) := by decide +kernel
theorem dX11_crank_53 : decode cX11_crank 53 = .ok (.iload_n 2, 1) := by decide +kernel
theorem dX11_crank_54 : decode cX11_crank 54 = .ok (.iload_n 1, 1) := by decide +kernel
theorem dX11_crank_55 : decode cX11_crank 55 = .ok (.invokevirtual 414, 3) := by decide +kernel
theorem dX11_crank_58 : decode cX11_crank 58 = .ok (.iinc 3 1, 3) := by decide +kernel
theorem dX11_crank_61 : decode cX11_crank 61 = .ok (.goto (-20), 3) := by decide +kernel
theorem dX11_crank_64 : decode cX11_crank 64 = .ok (.aload_n 0, 1) := by decide +kernel
theorem dX11_crank_65 : decode cX11_crank 65 = .ok (.getfield 22, 3) := by decide +kernel
theorem dX11_crank_68 : decode cX11_crank 68 = .ok (.bipush 18, 2) := by decide +kernel
theorem dX11_crank_70 : decode cX11_crank 70 = .ok (.iload_n 1, 1) := by decide +kernel
theorem dX11_crank_71 : decode cX11_crank 71 = .ok (.iastore, 1) := by decide +kernel
theorem dX11_crank_72 : decode cX11_crank 72 = .ok (.iload_n 2, 1) := by decide +kernel
theorem dX11_crank_73 : decode cX11_crank 73 = .ok (.ireturn, 1) := by decide +kernel
theorem dX11_backlash_0 : decode cX11_backlash 0 = .ok (.aload_n 0, 1) := by decide +kernel
theorem dX11_backlash_1 : decode cX11_backlash 1 = .ok (.iload_n 1, 1) := by decide +kernel
theorem dX11_backlash_2 : decode cX11_backlash 2 = .ok (.invokevirtual 319, 3) := by decide +kernel
theorem dX11_backlash_5 : decode cX11_backlash 5 = .ok (.ifCond .eq 7, 3) := by decide +kernel
theorem dX11_backlash_8 : decode cX11_backlash 8 = .ok (.iconst 0, 1) := by decide +kernel
theorem dX11_backlash_9 : decode cX11_backlash 9 = .ok (.goto 8, 3) := by decide +kernel
theorem dX11_backlash_12 : decode cX11_backlash 12 = .ok (.aload_n 0, 1) := by decide +kernel
theorem dX11_backlash_13 : decode cX11_backlash 13 = .ok (.iload_n 1, 1) := by decide +kernel
theorem dX11_backlash_14 : decode cX11_backlash 14 = .ok (.invokevirtual 408, 3) := by decide +kernel
theorem dX11_backlash_17 : decode cX11_backlash 17 = .ok (.ireturn, 1) := by decide +kernel
theorem dX11_lag_0 : decode cX11_lag 0 = .ok (.aload_n 0, 1) := by decide +kernel
theorem dX11_lag_1 : decode cX11_lag 1 = .ok (.iload_n 1, 1) := by decide +kernel
theorem dX11_lag_2 : decode cX11_lag 2 = .ok (.invokevirtual 319, 3) := by decide +kernel
theorem dX11_lag_5 : decode cX11_lag 5 = .ok (.ifCond .eq 7, 3) := by decide +kernel
theorem dX11_lag_8 : decode cX11_lag 8 = .ok (.iconst 0, 1) := by decide +kernel
theorem dX11_lag_9 : decode cX11_lag 9 = .ok (.goto 13, 3) := by decide +kernel
theorem dX11_lag_12 : decode cX11_lag 12 = .ok (.aload_n 0, 1) := by decide +kernel
theorem dX11_lag_13 : decode cX11_lag 13 = .ok (.getfield 22, 3) := by decide +kernel
theorem dX11_lag_16 : decode cX11_lag 16 = .ok (.iload_n 1, 1) := by decide +kernel
theorem dX11_lag_17 : decode cX11_lag 17 = .ok (.iconst 1, 1) := by decide +kernel
theorem dX11_lag_18 : decode cX11_lag 18 = .ok (.invokestatic 53, 3) := by decide +kernel
theorem dX11_lag_21 : decode cX11_lag 21 = .ok (.iaload, 1) := by decide +kernel
theorem dX11_lag_22 : decode cX11_lag 22 = .ok (.ireturn, 1) := by decide +kernel
theorem dX11_shown_0 : decode cX11_shown 0 = .ok (.aload_n 0, 1) := by decide +kernel
theorem dX11_shown_1 : decode cX11_shown 1 = .ok (.iload_n 1, 1) := by decide +kernel
theorem dX11_shown_2 : decode cX11_shown 2 = .ok (.invokevirtual 319, 3) := by decide +kernel
theorem dX11_shown_5 : decode cX11_shown 5 = .ok (.ifCond .eq 7, 3) := by decide +kernel
theorem dX11_shown_8 : decode cX11_shown 8 = .ok (.iconst 0, 1) := by decide +kernel
theorem dX11_shown_9 : decode cX11_shown 9 = .ok (.goto 34, 3) := by decide +kernel
theorem dX11_shown_12 : decode cX11_shown 12 = .ok (.aload_n 0, 1) := by decide +kernel
theorem dX11_shown_13 : decode cX11_shown 13 = .ok (.iload_n 1, 1) := by decide +kernel
theorem dX11_shown_14 : decode cX11_shown 14 = .ok (.aload_n 0, 1) := by decide +kernel
theorem dX11_shown_15 : decode cX11_shown 15 = .ok (.getfield 22, 3) := by decide +kernel
theorem dX11_shown_18 : decode cX11_shown 18 = .ok (.bipush 18, 2) := by decide +kernel
theorem dX11_shown_20 : decode cX11_shown 20 = .ok (.iaload, 1) := by decide +kernel
theorem dX11_shown_21 : decode cX11_shown 21 = .ok (.invokevirtual 405, 3) := by decide +kernel
theorem dX11_shown_24 : decode cX11_shown 24 = .ok (.aload_n 0, 1) := by decide +kernel
theorem dX11_shown_25 : decode cX11_shown 25 = .ok (.getfield 22, 3) := by decide +kernel
theorem dX11_shown_28 : decode cX11_shown 28 = .ok (.iload_n 1, 1) := by decide +kernel
theorem dX11_shown_29 : decode cX11_shown 29 = .ok (.iconst 1, 1) := by decide +kernel
theorem dX11_shown_30 : decode cX11_shown 30 = .ok (.invokestatic 53, 3) := by decide +kernel
theorem dX11_shown_33 : decode cX11_shown 33 = .ok (.iaload, 1) := by decide +kernel
theorem dX11_shown_34 : decode cX11_shown 34 = .ok (.i2l, 1) := by decide +kernel
theorem dX11_shown_35 : decode cX11_shown 35 = .ok (.ladd, 1) := by decide +kernel
theorem dX11_shown_36 : decode cX11_shown 36 = .ok (.ldc2_w 281, 3) := by decide +kernel
theorem dX11_shown_39 : decode cX11_shown 39 = .ok (.invokestatic 287, 3) := by decide +kernel
theorem dX11_shown_42 : decode cX11_shown 42 = .ok (.l2i, 1) := by decide +kernel
theorem dX11_shown_43 : decode cX11_shown 43 = .ok (.ireturn, 1) := by decide +kernel
theorem dX11_missing_0 : decode cX11_missing 0 = .ok (.aload_n 0, 1) := by decide +kernel
theorem dX11_missing_1 : decode cX11_missing 1 = .ok (.iload_n 1, 1) := by decide +kernel
theorem dX11_missing_2 : decode cX11_missing 2 = .ok (.invokevirtual 319, 3) := by decide +kernel
theorem dX11_missing_5 : decode cX11_missing 5 = .ok (.ifCond .eq 5, 3) := by decide +kernel
theorem dX11_missing_8 : decode cX11_missing 8 = .ok (.iconst 0, 1) := by decide +kernel
theorem dX11_missing_9 : decode cX11_missing 9 = .ok (.ireturn, 1) := by decide +kernel
theorem dX11_missing_10 : decode cX11_missing 10 = .ok (.iconst 0, 1) := by decide +kernel
theorem dX11_missing_11 : decode cX11_missing 11 = .ok (.istore_n 2, 1) := by decide +kernel
theorem dX11_missing_12 : decode cX11_missing 12 = .ok (.iconst 0, 1) := by decide +kernel
theorem dX11_missing_13 : decode cX11_missing 13 = .ok (.istore_n 3, 1) := by decide +kernel
theorem dX11_missing_14 : decode cX11_missing 14 = .ok (.iload_n 3, 1) := by decide +kernel
theorem dX11_missing_15 : decode cX11_missing 15 = .ok (.aload_n 0, 1) := by decide +kernel
theorem dX11_missing_16 : decode cX11_missing 16 = .ok (.iload_n 1, 1) := by decide +kernel
theorem dX11_missing_17 : decode cX11_missing 17 = .ok (.invokevirtual 188, 3) := by decide +kernel
theorem dX11_missing_20 : decode cX11_missing 20 = .ok (.if_icmp .ge 64, 3) := by decide +kernel
theorem dX11_missing_23 : decode cX11_missing 23 = .ok (.iload_n 2, 1) := by decide +kernel
theorem dX11_missing_24 : decode cX11_missing 24 = .ok (.aload_n 0, 1) := by decide +kernel
theorem dX11_missing_25 : decode cX11_missing 25 = .ok (.aload_n 0, 1) := by decide +kernel
theorem dX11_missing_26 : decode cX11_missing 26 = .ok (.iload_n 1, 1) := by decide +kernel
theorem dX11_missing_27 : decode cX11_missing 27 = .ok (.iload_n 3, 1) := by decide +kernel
theorem dX11_missing_28 : decode cX11_missing 28 = .ok (.iconst 1, 1) := by decide +kernel
theorem dX11_missing_29 : decode cX11_missing 29 = .ok (.invokevirtual 191, 3) := by decide +kernel
theorem dX11_missing_32 : decode cX11_missing 32 = .ok (.invokevirtual 172, 3) := by decide +kernel
theorem dX11_missing_35 : decode cX11_missing 35 = .ok (.ifCond .eq 7, 3) := by decide +kernel
theorem dX11_missing_38 : decode cX11_missing 38 = .ok (.iconst 0, 1) := by decide +kernel
theorem dX11_missing_39 : decode cX11_missing 39 = .ok (.goto 4, 3) := by decide +kernel
theorem dX11_missing_42 : decode cX11_missing 42 = .ok (.iconst 1, 1) := by decide +kernel
theorem dX11_missing_43 : decode cX11_missing 43 = .ok (.iadd, 1) := by decide +kernel
theorem dX11_missing_44 : decode cX11_missing 44 = .ok (.istore_n 2, 1) := by decide +kernel
theorem dX11_missing_45 : decode cX11_missing 45 = .ok (.iload_n 2, 1) := by decide +kernel
theorem dX11_missing_46 : decode cX11_missing 46 = .ok (.aload_n 0, 1) := by decide +kernel
theorem dX11_missing_47 : decode cX11_missing 47 = .ok (.iload_n 1, 1) := by decide +kernel
theorem dX11_missing_48 : decode cX11_missing 48 = .ok (.iload_n 3, 1) := by decide +kernel
theorem dX11_missing_49 : decode cX11_missing 49 = .ok (.iconst 0, 1) := by decide +kernel
theorem dX11_missing_50 : decode cX11_missing 50 = .ok (.invokevirtual 191, 3) := by decide +kernel
theorem dX11_missing_53 : decode cX11_missing 53 = .ok (.iconst 2, 1) := by decide +kernel
theorem dX11_missing_54 : decode cX11_missing 54 = .ok (.if_icmp .eq 17, 3) := by decide +kernel
theorem dX11_missing_57 : decode cX11_missing 57 = .ok (.aload_n 0, 1) := by decide +kernel
theorem dX11_missing_58 : decode cX11_missing 58 = .ok (.aload_n 0, 1) := by decide +kernel
theorem dX11_missing_59 : decode cX11_missing 59 = .ok (.iload_n 1, 1) := by decide +kernel
theorem dX11_missing_60 : decode cX11_missing 60 = .ok (.iload_n 3, 1) := by decide +kernel
theorem dX11_missing_61 : decode cX11_missing 61 = .ok (.iconst 2, 1) := by decide +kernel
theorem dX11_missing_62 : decode cX11_missing 62 = .ok (.invokevirtual 191, 3) := by decide +kernel
theorem dX11_missing_65 : decode cX11_missing 65 = .ok (.invokevirtual 172, 3) := by decide +kernel
theorem dX11_missing_68 : decode cX11_missing 68 = .ok (.ifCond .eq 7, 3) := by decide +kernel
theorem dX11_missing_71 : decode cX11_missing 71 = .ok (.iconst 0, 1) := by decide +kernel
theorem dX11_missing_72 : decode cX11_missing 72 = .ok (.goto 4, 3) := by decide +kernel
theorem dX11_missing_75 : decode cX11_missing 75 = .ok (.iconst 1, 1) := by decide +kernel
theorem dX11_missing_76 : decode cX11_missing 76 = .ok (.iadd, 1) := by decide +kernel
theorem dX11_missing_77 : decode cX11_missing 77 = .ok (.istore_n 2, 1) := by decide +kernel
theorem dX11_missing_78 : decode cX11_missing 78 = .ok (.iinc 3 1, 3) := by decide +kernel
theorem dX11_missing_81 : decode cX11_missing 81 = .ok (.goto (-67), 3) := by decide +kernel
theorem dX11_missing_84 : decode cX11_missing 84 = .ok (.iload_n 2, 1) := by decide +kernel
theorem dX11_missing_85 : decode cX11_missing 85 = .ok (.ireturn, 1) := by decide +kernel
theorem dX11_uses_0 : decode cX11_uses 0 = .ok (.aload_n 0, 1) := by decide +kernel
theorem dX11_uses_1 : decode cX11_uses 1 = .ok (.iconst 0, 1) := by decide +kernel
theorem dX11_uses_2 : decode cX11_uses 2 = .ok (.putfield 50, 3) := by decide +kernel
theorem dX11_uses_5 : decode cX11_uses 5 = .ok (.iconst 0, 1) := by decide +kernel
theorem dX11_uses_6 : decode cX11_uses 6 = .ok (.istore_n 2, 1) := by decide +kernel
theorem dX11_uses_7 : decode cX11_uses 7 = .ok (.iconst 0, 1) := by decide +kernel
theorem dX11_uses_8 : decode cX11_uses 8 = .ok (.istore_n 3, 1) := by decide +kernel
theorem dX11_uses_9 : decode cX11_uses 9 = .ok (.iload_n 3, 1) := by decide +kernel
theorem dX11_uses_10 : decode cX11_uses 10 = .ok (.aload_n 0, 1) := by decide +kernel
theorem dX11_uses_11 : decode cX11_uses 11 = .ok (.getfield 7, 3) := by decide +kernel
theorem dX11_uses_14 : decode cX11_uses 14 = .ok (.iconst 0, 1) := by decide +kernel
theorem dX11_uses_15 : decode cX11_uses 15 = .ok (.iaload, 1) := by decide +kernel
theorem dX11_uses_16 : decode cX11_uses 16 = .ok (.if_icmp .ge 80, 3) := by decide +kernel
theorem dX11_uses_19 : decode cX11_uses 19 = .ok (.iconst 0, 1) := by decide +kernel
theorem dX11_uses_20 : decode cX11_uses 20 = .ok (.istore 4, 2) := by decide +kernel
theorem dX11_uses_22 : decode cX11_uses 22 = .ok (.iload 4, 2) := by decide +kernel
theorem dX11_uses_24 : decode cX11_uses 24 = .ok (.aload_n 0, 1) := by decide +kernel
theorem dX11_uses_25 : decode cX11_uses 25 = .ok (.iload_n 3, 1) := by decide +kernel
theorem dX11_uses_26 : decode cX11_uses 26 = .ok (.invokevirtual 188, 3) := by decide +kernel
theorem dX11_uses_29 : decode cX11_uses 29 = .ok (.if_icmp .ge 61, 3) := by decide +kernel
theorem dX11_uses_32 : decode cX11_uses 32 = .ok (.iload_n 2, 1) := by decide +kernel
theorem dX11_uses_33 : decode cX11_uses 33 = .ok (.aload_n 0, 1) := by decide +kernel
theorem dX11_uses_34 : decode cX11_uses 34 = .ok (.iload_n 3, 1) := by decide +kernel
theorem dX11_uses_35 : decode cX11_uses 35 = .ok (.iload 4, 2) := by decide +kernel
theorem dX11_uses_37 : decode cX11_uses 37 = .ok (.iconst 1, 1) := by decide +kernel
theorem dX11_uses_38 : decode cX11_uses 38 = .ok (.invokevirtual 191, 3) := by decide +kernel
theorem dX11_uses_41 : decode cX11_uses 41 = .ok (.iload_n 1, 1) := by decide +kernel
theorem dX11_uses_42 : decode cX11_uses 42 = .ok (.if_icmp .ne 7, 3) := by decide +kernel
theorem dX11_uses_45 : decode cX11_uses 45 = .ok (.iconst 1, 1) := by decide +kernel
theorem dX11_uses_46 : decode cX11_uses 46 = .ok (.goto 4, 3) := by decide +kernel
theorem dX11_uses_49 : decode cX11_uses 49 = .ok (.iconst 0, 1) := by decide +kernel
theorem dX11_uses_50 : decode cX11_uses 50 = .ok (.iadd, 1) := by decide +kernel
theorem dX11_uses_51 : decode cX11_uses 51 = .ok (.istore_n 2, 1) := by decide +kernel
theorem dX11_uses_52 : decode cX11_uses 52 = .ok (.iload_n 2, 1) := by decide +kernel
theorem dX11_uses_53 : decode cX11_uses 53 = .ok (.aload_n 0, 1) := by decide +kernel
theorem dX11_uses_54 : decode cX11_uses 54 = .ok (.iload_n 3, 1) := by decide +kernel
theorem dX11_uses_55 : decode cX11_uses 55 = .ok (.iload 4, 2) := by decide +kernel
theorem dX11_uses_57 : decode cX11_uses 57 = .ok (.iconst 0, 1) := by decide +kernel
theorem dX11_uses_58 : decode cX11_uses 58 = .ok (.invokevirtual 191, 3) := by decide +kernel
theorem dX11_uses_61 : decode cX11_uses 61 = .ok (.iconst 2, 1) := by decide +kernel
theorem dX11_uses_62 : decode cX11_uses 62 = .ok (.if_icmp .eq 19, 3) := by decide +kernel
theorem dX11_uses_65 : decode cX11_uses 65 = .ok (.aload_n 0, 1) := by decide +kernel
theorem dX11_uses_66 : decode cX11_uses 66 = .ok (.iload_n 3, 1) := by decide +kernel
theorem dX11_uses_67 : decode cX11_uses 67 = .ok (.iload 4, 2) := by decide +kernel
theorem dX11_uses_69 : decode cX11_uses 69 = .ok (.iconst 2, 1) := by decide +kernel
theorem dX11_uses_70 : decode cX11_uses 70 = .ok (.invokevirtual 191, 3) := by decide +kernel
theorem dX11_uses_73 : decode cX11_uses 73 = .ok (.iload_n 1, 1) := by decide +kernel
theorem dX11_uses_74 : decode cX11_uses 74 = .ok (.if_icmp .ne 7, 3) := by decide +kernel
theorem dX11_uses_77 : decode cX11_uses 77 = .ok (.iconst 1, 1) := by decide +kernel
theorem dX11_uses_78 : decode cX11_uses 78 = .ok (.goto 4, 3) := by decide +kernel
theorem dX11_uses_81 : decode cX11_uses 81 = .ok (.iconst 0, 1) := by decide +kernel
theorem dX11_uses_82 : decode cX11_uses 82 = .ok (.iadd, 1) := by decide +kernel
theorem dX11_uses_83 : decode cX11_uses 83 = .ok (.istore_n 2, 1) := by decide +kernel
theorem dX11_uses_84 : decode cX11_uses 84 = .ok (.iinc 4 1, 3) := by decide +kernel
theorem dX11_uses_87 : decode cX11_uses 87 = .ok (.goto (-65), 3) := by decide +kernel
theorem dX11_uses_90 : decode cX11_uses 90 = .ok (.iinc 3 1, 3) := by decide +kernel
theorem dX11_uses_93 : decode cX11_uses 93 = .ok (.goto (-84), 3) := by decide +kernel
theorem dX11_uses_96 : decode cX11_uses 96 = .ok (.iload_n 2, 1) := by decide +kernel
theorem dX11_uses_97 : decode cX11_uses 97 = .ok (.ireturn, 1) := by decide +kernel
theorem dX11_offNow_0 : decode cX11_offNow 0 = .ok (.aload_n 0, 1) := by decide +kernel
theorem dX11_offNow_1 : decode cX11_offNow 1 = .ok (.iload_n 1, 1) := by decide +kernel
theorem dX11_offNow_2 : decode cX11_offNow 2 = .ok (.invokevirtual 275, 3) := by decide +kernel
theorem dX11_offNow_5 : decode cX11_offNow 5 = .ok (.aload_n 0, 1) := by decide +kernel
theorem dX11_offNow_6 : decode cX11_offNow 6 = .ok (.getfield 249, 3) := by decide +kernel
theorem dX11_offNow_9 : decode cX11_offNow 9 = .ok (.lstore_n 2, 1) := by decide +kernel
theorem dX11_offNow_10 : decode cX11_offNow 10 = .ok (.aload_n 0, 1) := by decide +kernel
theorem dX11_offNow_11 : decode cX11_offNow 11 = .ok (.getfield 253, 3) := by decide +kernel
theorem dX11_offNow_14 : decode cX11_offNow 14 = .ok (.lstore 4, 2) := by decide +kernel
theorem dX11_offNow_16 : decode cX11_offNow 16 = .ok (.aload_n 0, 1) := by decide +kernel
theorem dX11_offNow_17 : decode cX11_offNow 17 = .ok (.iload_n 1, 1) := by decide +kernel
theorem dX11_offNow_18 : decode cX11_offNow 18 = .ok (.invokevirtual 278, 3) := by decide +kernel
theorem dX11_offNow_21 : decode cX11_offNow 21 = .ok (.aload_n 0, 1) := by decide +kernel
theorem dX11_offNow_22 : decode cX11_offNow 22 = .ok (.getfield 249, 3) := by decide +kernel
theorem dX11_offNow_25 : decode cX11_offNow 25 = .ok (.lload 4, 2) := by decide +kernel
theorem dX11_offNow_27 : decode cX11_offNow 27 = .ok (.lmul, 1) := by decide +kernel
theorem dX11_offNow_28 : decode cX11_offNow 28 = .ok (.lload_n 2, 1) := by decide +kernel
theorem dX11_offNow_29 : decode cX11_offNow 29 = .ok (.aload_n 0, 1) := by decide +kernel
theorem dX11_offNow_30 : decode cX11_offNow 30 = .ok (.getfield 253, 3) := by decide +kernel
theorem dX11_offNow_33 : decode cX11_offNow 33 = .ok (.lmul, 1) := by decide +kernel
theorem dX11_offNow_34 : decode cX11_offNow 34 = .ok (.lsub, 1) := by decide +kernel
theorem dX11_offNow_35 : decode cX11_offNow 35 = .ok (.invokestatic 239, 3) := by decide +kernel
theorem dX11_offNow_38 : decode cX11_offNow 38 = .ok (.lreturn, 1) := by decide +kernel
theorem dX11_improve_0 : decode cX11_improve 0 = .ok (.aload_n 0, 1) := by decide +kernel
theorem dX11_improve_1 : decode cX11_improve 1 = .ok (.iload_n 1, 1) := by decide +kernel
theorem dX11_improve_2 : decode cX11_improve 2 = .ok (.invokevirtual 319, 3) := by decide +kernel
theorem dX11_improve_5 : decode cX11_improve 5 = .ok (.ifCond .eq 5, 3) := by decide +kernel
theorem dX11_improve_8 : decode cX11_improve 8 = .ok (.iconst 0, 1) := by decide +kernel
theorem dX11_improve_9 : decode cX11_improve 9 = .ok (.ireturn, 1) := by decide +kernel
theorem dX11_improve_10 : decode cX11_improve 10 = .ok (.aload_n 0, 1) := by decide +kernel
theorem dX11_improve_11 : decode cX11_improve 11 = .ok (.iload_n 1, 1) := by decide +kernel
theorem dX11_improve_12 : decode cX11_improve 12 = .ok (.invokevirtual 418, 3) := by decide +kernel
theorem dX11_improve_15 : decode cX11_improve 15 = .ok (.lstore_n 2, 1) := by decide +kernel
theorem dX11_improve_16 : decode cX11_improve 16 = .ok (.aload_n 0, 1) := by decide +kernel
theorem dX11_improve_17 : decode cX11_improve 17 = .ok (.getfield 253, 3) := by decide +kernel
theorem dX11_improve_20 : decode cX11_improve 20 = .ok (.lstore 4, 2) := by decide +kernel
theorem dX11_improve_22 : decode cX11_improve 22 = .ok (.iconst (-1), 1) := by decide +kernel
theorem dX11_improve_23 : decode cX11_improve 23 = .ok (.istore 6, 2) := by decide +kernel
theorem dX11_improve_25 : decode cX11_improve 25 = .ok (.iconst (-1), 1) := by decide +kernel
theorem dX11_improve_26 : decode cX11_improve 26 = .ok (.istore 7, 2) := by decide +kernel
theorem dX11_improve_28 : decode cX11_improve 28 = .ok (.iconst 0, 1) := by decide +kernel
theorem dX11_improve_29 : decode cX11_improve 29 = .ok (.istore 8, 2) := by decide +kernel
theorem dX11_improve_31 : decode cX11_improve 31 = .ok (.iload 8, 2) := by decide +kernel
theorem dX11_improve_33 : decode cX11_improve 33 = .ok (.aload_n 0, 1) := by decide +kernel
theorem dX11_improve_34 : decode cX11_improve 34 = .ok (.iload_n 1, 1) := by decide +kernel
theorem dX11_improve_35 : decode cX11_improve 35 = .ok (.invokevirtual 188, 3) := by decide +kernel
theorem dX11_improve_38 : decode cX11_improve 38 = .ok (.if_icmp .ge 171, 3) := by decide +kernel
theorem dX11_improve_41 : decode cX11_improve 41 = .ok (.iconst 1, 1) := by decide +kernel
theorem dX11_improve_42 : decode cX11_improve 42 = .ok (.istore 9, 2) := by decide +kernel
theorem dX11_improve_44 : decode cX11_improve 44 = .ok (.iload 9, 2) := by decide +kernel
theorem dX11_improve_46 : decode cX11_improve 46 = .ok (.iconst 3, 1) := by decide +kernel
theorem dX11_improve_47 : decode cX11_improve 47 = .ok (.if_icmp .ge 156, 3) := by decide +kernel
theorem dX11_improve_50 : decode cX11_improve 50 = .ok (.aload_n 0, 1) := by decide +kernel
theorem dX11_improve_51 : decode cX11_improve 51 = .ok (.iload_n 1, 1) := by decide +kernel
theorem dX11_improve_52 : decode cX11_improve 52 = .ok (.iload 8, 2) := by decide +kernel
theorem dX11_improve_54 : decode cX11_improve 54 = .ok (.iconst 0, 1) := by decide +kernel
theorem dX11_improve_55 : decode cX11_improve 55 = .ok (.invokevirtual 191, 3) := by decide +kernel
theorem dX11_improve_58 : decode cX11_improve 58 = .ok (.iconst 2, 1) := by decide +kernel
theorem dX11_improve_59 : decode cX11_improve 59 = .ok (.if_icmp .eq 144, 3) := by decide +kernel
theorem dX11_improve_62 : decode cX11_improve 62 = .ok (.iload_n 1, 1) := by decide +kernel
theorem dX11_improve_63 : decode cX11_improve 63 = .ok (.iconst 2, 1) := by decide +kernel
theorem dX11_improve_64 : decode cX11_improve 64 = .ok (.iconst 3, 1) := by decide +kernel
theorem dX11_improve_65 : decode cX11_improve 65 = .ok (.iload 8, 2) := by decide +kernel
theorem dX11_improve_67 : decode cX11_improve 67 = .ok (.imul, 1) := by decide +kernel
theorem dX11_improve_68 : decode cX11_improve 68 = .ok (.iadd, 1) := by decide +kernel
theorem dX11_improve_69 : decode cX11_improve 69 = .ok (.iload 9, 2) := by decide +kernel
theorem dX11_improve_71 : decode cX11_improve 71 = .ok (.iadd, 1) := by decide +kernel
theorem dX11_improve_72 : decode cX11_improve 72 = .ok (.invokestatic 53, 3) := by decide +kernel
theorem dX11_improve_75 : decode cX11_improve 75 = .ok (.istore 10, 2) := by decide +kernel
theorem dX11_improve_77 : decode cX11_improve 77 = .ok (.aload_n 0, 1) := by decide +kernel
theorem dX11_improve_78 : decode cX11_improve 78 = .ok (.getfield 22, 3) := by decide +kernel
theorem dX11_improve_81 : decode cX11_improve 81 = .ok (.iload 10, 2) := by decide +kernel
theorem dX11_improve_83 : decode cX11_improve 83 = .ok (.iaload, 1) := by decide +kernel
theorem dX11_improve_84 : decode cX11_improve 84 = .ok (.istore 11, 2) := by decide +kernel
theorem dX11_improve_86 : decode cX11_improve 86 = .ok (.iconst 0, 1) := by decide +kernel
theorem dX11_improve_87 : decode cX11_improve 87 = .ok (.istore 12, 2) := by decide +kernel
theorem dX11_improve_89 : decode cX11_improve 89 = .ok (.iload 12, 2) := by decide +kernel
theorem dX11_improve_91 : decode cX11_improve 91 = .ok (.aload_n 0, 1) := by decide +kernel
theorem dX11_improve_92 : decode cX11_improve 92 = .ok (.getfield 22, 3) := by decide +kernel
theorem dX11_improve_95 : decode cX11_improve 95 = .ok (.iconst 0, 1) := by decide +kernel
theorem dX11_improve_96 : decode cX11_improve 96 = .ok (.iaload, 1) := by decide +kernel
theorem dX11_improve_97 : decode cX11_improve 97 = .ok (.if_icmp .ge 91, 3) := by decide +kernel
theorem dX11_improve_100 : decode cX11_improve 100 = .ok (.aload_n 0, 1) := by decide +kernel
theorem dX11_improve_101 : decode cX11_improve 101 = .ok (.getfield 22, 3) := by decide +kernel
theorem dX11_improve_104 : decode cX11_improve 104 = .ok (.iconst 1, 1) := by decide +kernel
theorem dX11_improve_105 : decode cX11_improve 105 = .ok (.iload 12, 2) := by decide +kernel
theorem dX11_improve_107 : decode cX11_improve 107 = .ok (.iadd, 1) := by decide +kernel
theorem dX11_improve_108 : decode cX11_improve 108 = .ok (.iaload, 1) := by decide +kernel
theorem dX11_improve_109 : decode cX11_improve 109 = .ok (.iload 11, 2) := by decide +kernel
theorem dX11_improve_111 : decode cX11_improve 111 = .ok (.if_icmp .ne 6, 3) := by decide +kernel
theorem dX11_improve_114 : decode cX11_improve 114 = .ok (.goto 68, 3) := by decide +kernel
theorem dX11_improve_117 : decode cX11_improve 117 = .ok (.aload_n 0, 1) := by decide +kernel
theorem dX11_improve_118 : decode cX11_improve 118 = .ok (.getfield 22, 3) := by decide +kernel
theorem dX11_improve_121 : decode cX11_improve 121 = .ok (.iload 10, 2) := by decide +kernel
theorem dX11_improve_123 : decode cX11_improve 123 = .ok (.aload_n 0, 1) := by decide +kernel
theorem dX11_improve_124 : decode cX11_improve 124 = .ok (.getfield 22, 3) := by decide +kernel
theorem dX11_improve_127 : decode cX11_improve 127 = .ok (.iconst 1, 1) := by decide +kernel
theorem dX11_improve_128 : decode cX11_improve 128 = .ok (.iload 12, 2) := by decide +kernel
theorem dX11_improve_130 : decode cX11_improve 130 = .ok (.iadd, 1) := by decide +kernel
theorem dX11_improve_131 : decode cX11_improve 131 = .ok (.iaload, 1) := by decide +kernel
theorem dX11_improve_132 : decode cX11_improve 132 = .ok (.iastore, 1) := by decide +kernel
theorem dX11_improve_133 : decode cX11_improve 133 = .ok (.aload_n 0, 1) := by decide +kernel
theorem dX11_improve_134 : decode cX11_improve 134 = .ok (.iload_n 1, 1) := by decide +kernel
theorem dX11_improve_135 : decode cX11_improve 135 = .ok (.invokevirtual 418, 3) := by decide +kernel
theorem dX11_improve_138 : decode cX11_improve 138 = .ok (.lstore 13, 2) := by decide +kernel
theorem dX11_improve_140 : decode cX11_improve 140 = .ok (.lload 13, 2) := by decide +kernel
theorem dX11_improve_142 : decode cX11_improve 142 = .ok (.aload_n 0, 1) := by decide +kernel
theorem dX11_improve_143 : decode cX11_improve 143 = .ok (.getfield 253, 3) := by decide +kernel
theorem dX11_improve_146 : decode cX11_improve 146 = .ok (.lload_n 2, 1) := by decide +kernel
theorem dX11_improve_147 : decode cX11_improve 147 = .ok (.lload 4, 2) := by decide +kernel
theorem dX11_improve_149 : decode cX11_improve 149 = .ok (.invokestatic 367, 3) := by decide +kernel
theorem dX11_improve_152 : decode cX11_improve 152 = .ok (.ifCond .ne 6, 3) := by decide +kernel
theorem dX11_improve_155 : decode cX11_improve 155 = .ok (.goto 27, 3) := by decide +kernel
theorem dX11_improve_158 : decode cX11_improve 158 = .ok (.lload 13, 2) := by decide +kernel
theorem dX11_improve_160 : decode cX11_improve 160 = .ok (.lstore_n 2, 1) := by decide +kernel
theorem dX11_improve_161 : decode cX11_improve 161 = .ok (.aload_n 0, 1) := by decide +kernel
theorem dX11_improve_162 : decode cX11_improve 162 = .ok (.getfield 253, 3) := by decide +kernel
theorem dX11_improve_165 : decode cX11_improve 165 = .ok (.lstore 4, 2) := by decide +kernel
theorem dX11_improve_167 : decode cX11_improve 167 = .ok (.iload 10, 2) := by decide +kernel
theorem dX11_improve_169 : decode cX11_improve 169 = .ok (.istore 6, 2) := by decide +kernel
theorem dX11_improve_171 : decode cX11_improve 171 = .ok (.aload_n 0, 1) := by decide +kernel
theorem dX11_improve_172 : decode cX11_improve 172 = .ok (.getfield 22, 3) := by decide +kernel
theorem dX11_improve_175 : decode cX11_improve 175 = .ok (.iconst 1, 1) := by decide +kernel
theorem dX11_improve_176 : decode cX11_improve 176 = .ok (.iload 12, 2) := by decide +kernel
theorem dX11_improve_178 : decode cX11_improve 178 = .ok (.iadd, 1) := by decide +kernel
theorem dX11_improve_179 : decode cX11_improve 179 = .ok (.iaload, 1) := by decide +kernel
theorem dX11_improve_180 : decode cX11_improve 180 = .ok (.istore 7, 2) := by decide +kernel
theorem dX11_improve_182 : decode cX11_improve 182 = .ok (.iinc 12 1, 3) := by decide +kernel
theorem dX11_improve_185 : decode cX11_improve 185 = .ok (.goto (-96), 3) := by decide +kernel
theorem dX11_improve_188 : decode cX11_improve 188 = .ok (.aload_n 0, 1) := by decide +kernel
theorem dX11_improve_189 : decode cX11_improve 189 = .ok (.getfield 22, 3) := by decide +kernel
theorem dX11_improve_192 : decode cX11_improve 192 = .ok (.iload 10, 2) := by decide +kernel
theorem dX11_improve_194 : decode cX11_improve 194 = .ok (.iload 11, 2) := by decide +kernel
theorem dX11_improve_196 : decode cX11_improve 196 = .ok (.iastore, 1) := by decide +kernel
theorem dX11_improve_197 : decode cX11_improve 197 = .ok (.iinc 9 1, 3) := by decide +kernel
theorem dX11_improve_200 : decode cX11_improve 200 = .ok (.goto (-156), 3) := by decide +kernel
theorem dX11_improve_203 : decode cX11_improve 203 = .ok (.iinc 8 1, 3) := by decide +kernel
theorem dX11_improve_206 : decode cX11_improve 206 = .ok (.goto (-175), 3) := by decide +kernel
theorem dX11_improve_209 : decode cX11_improve 209 = .ok (.iload 6, 2) := by decide +kernel
theorem dX11_improve_211 : decode cX11_improve 211 = .ok (.iconst (-1), 1) := by decide +kernel
theorem dX11_improve_212 : decode cX11_improve 212 = .ok (.if_icmp .ne 5, 3) := by decide +kernel
theorem dX11_improve_215 : decode cX11_improve 215 = .ok (.iconst (-1), 1) := by decide +kernel
theorem dX11_improve_216 : decode cX11_improve 216 = .ok (.ireturn, 1) := by decide +kernel
theorem dX11_improve_217 : decode cX11_improve 217 = .ok (.aload_n 0, 1) := by decide +kernel
theorem dX11_improve_218 : decode cX11_improve 218 = .ok (.invokevirtual 392, 3) := by decide +kernel
theorem dX11_improve_221 : decode cX11_improve 221 = .ok (.aload_n 0, 1) := by decide +kernel
theorem dX11_improve_222 : decode cX11_improve 222 = .ok (.getfield 22, 3) := by decide +kernel
theorem dX11_improve_225 : decode cX11_improve 225 = .ok (.iload 6, 2) := by decide +kernel
theorem dX11_improve_227 : decode cX11_improve 227 = .ok (.iload 7, 2) := by decide +kernel
theorem dX11_improve_229 : decode cX11_improve 229 = .ok (.iastore, 1) := by decide +kernel
theorem dX11_improve_230 : decode cX11_improve 230 = .ok (.aload_n 0, 1) := by decide +kernel
theorem dX11_improve_231 : decode cX11_improve 231 = .ok (.iload_n 1, 1) := by decide +kernel
theorem dX11_improve_232 : decode cX11_improve 232 = .ok (.invokevirtual 395, 3) := by decide +kernel
theorem dX11_improve_235 : decode cX11_improve 235 = .ok (.iload 7, 2) := by decide +kernel
theorem dX11_improve_237 : decode cX11_improve 237 = .ok (.ireturn, 1) := by decide +kernel
theorem dX11_noTwo_0 : decode cX11_noTwo 0 = .ok (.aload_n 0, 1) := by decide +kernel
theorem dX11_noTwo_1 : decode cX11_noTwo 1 = .ok (.iload_n 1, 1) := by decide +kernel
theorem dX11_noTwo_2 : decode cX11_noTwo 2 = .ok (.invokevirtual 319, 3) := by decide +kernel
theorem dX11_noTwo_5 : decode cX11_noTwo 5 = .ok (.ifCond .ne 29, 3) := by decide +kernel
theorem dX11_noTwo_8 : decode cX11_noTwo 8 = .ok (.aload_n 0, 1) := by decide +kernel
theorem dX11_noTwo_9 : decode cX11_noTwo 9 = .ok (.iload_n 2, 1) := by decide +kernel
theorem dX11_noTwo_10 : decode cX11_noTwo 10 = .ok (.invokevirtual 319, 3) := by decide +kernel
theorem dX11_noTwo_13 : decode cX11_noTwo 13 = .ok (.ifCond .ne 21, 3) := by decide +kernel
theorem dX11_noTwo_16 : decode cX11_noTwo 16 = .ok (.aload_n 0, 1) := by decide +kernel
theorem dX11_noTwo_17 : decode cX11_noTwo 17 = .ok (.iload_n 1, 1) := by decide +kernel
theorem dX11_noTwo_18 : decode cX11_noTwo 18 = .ok (.iload_n 2, 1) := by decide +kernel
theorem dX11_noTwo_19 : decode cX11_noTwo 19 = .ok (.if_icmp .ne 7, 3) := by decide +kernel
theorem dX11_noTwo_22 : decode cX11_noTwo 22 = .ok (.iconst 1, 1) := by decide +kernel
theorem dX11_noTwo_23 : decode cX11_noTwo 23 = .ok (.goto 4, 3) := by decide +kernel
theorem dX11_noTwo_26 : decode cX11_noTwo 26 = .ok (.iconst 0, 1) := by decide +kernel
theorem dX11_noTwo_27 : decode cX11_noTwo 27 = .ok (.iconst 2, 1) := by decide +kernel
theorem dX11_noTwo_28 : decode cX11_noTwo 28 = .ok (.invokevirtual 309, 3) := by decide +kernel
theorem dX11_noTwo_31 : decode cX11_noTwo 31 = .ok (.ifCond .eq 7, 3) := by decide +kernel
theorem dX11_noTwo_34 : decode cX11_noTwo 34 = .ok (.iconst 1, 1) := by decide +kernel
theorem dX11_noTwo_35 : decode cX11_noTwo 35 = .ok (.goto 4, 3) := by decide +kernel
theorem dX11_noTwo_38 : decode cX11_noTwo 38 = .ok (.iconst 0, 1) := by decide +kernel
theorem dX11_noTwo_39 : decode cX11_noTwo 39 = .ok (.ireturn, 1) := by decide +kernel
theorem dX11_swapTrains_0 : decode cX11_swapTrains 0 = .ok (.aload_n 0, 1) := by decide +kernel
theorem dX11_swapTrains_1 : decode cX11_swapTrains 1 = .ok (.iload_n 1, 1) := by decide +kernel
theorem dX11_swapTrains_2 : decode cX11_swapTrains 2 = .ok (.iload_n 2, 1) := by decide +kernel
theorem dX11_swapTrains_3 : decode cX11_swapTrains 3 = .ok (.invokevirtual 422, 3) := by decide +kernel
theorem dX11_swapTrains_6 : decode cX11_swapTrains 6 = .ok (.ifCond .eq 5, 3) := by decide +kernel
theorem dX11_swapTrains_9 : decode cX11_swapTrains 9 = .ok (.iconst 0, 1) := by decide +kernel
theorem dX11_swapTrains_10 : decode cX11_swapTrains 10 = .ok (.ireturn, 1) := by decide +kernel
theorem dX11_swapTrains_11 : decode cX11_swapTrains 11 = .ok (.aload_n 0, 1) := by decide +kernel
theorem dX11_swapTrains_12 : decode cX11_swapTrains 12 = .ok (.invokevirtual 392, 3) := by decide +kernel
theorem dX11_swapTrains_15 : decode cX11_swapTrains 15 = .ok (.iconst 0, 1) := by decide +kernel
theorem dX11_swapTrains_16 : decode cX11_swapTrains 16 = .ok (.istore_n 3, 1) := by decide +kernel
theorem dX11_swapTrains_17 : decode cX11_swapTrains 17 = .ok (.iload_n 3, 1) := by decide +kernel
theorem dX11_swapTrains_18 : decode cX11_swapTrains 18 = .ok (.bipush 14, 2) := by decide +kernel
theorem dX11_swapTrains_20 : decode cX11_swapTrains 20 = .ok (.if_icmp .ge 53, 3) := by decide +kernel
theorem dX11_swapTrains_23 : decode cX11_swapTrains 23 = .ok (.aload_n 0, 1) := by decide +kernel
theorem dX11_swapTrains_24 : decode cX11_swapTrains 24 = .ok (.getfield 22, 3) := by decide +kernel
theorem dX11_swapTrains_27 : decode cX11_swapTrains 27 = .ok (.iload_n 1, 1) := by decide +kernel
theorem dX11_swapTrains_28 : decode cX11_swapTrains 28 = .ok (.iload_n 3, 1) := by decide +kernel
theorem dX11_swapTrains_29 : decode cX11_swapTrains 29 = .ok (.invokestatic 53, 3) := by decide +kernel
theorem dX11_swapTrains_32 : decode cX11_swapTrains 32 = .ok (.iaload, 1) := by decide +kernel
theorem dX11_swapTrains_33 : decode cX11_swapTrains 33 = .ok (.istore 4, 2) := by decide +kernel
theorem dX11_swapTrains_35 : decode cX11_swapTrains 35 = .ok (.aload_n 0, 1) := by decide +kernel
theorem dX11_swapTrains_36 : decode cX11_swapTrains 36 = .ok (.getfield 22, 3) := by decide +kernel
theorem dX11_swapTrains_39 : decode cX11_swapTrains 39 = .ok (.iload_n 1, 1) := by decide +kernel
theorem dX11_swapTrains_40 : decode cX11_swapTrains 40 = .ok (.iload_n 3, 1) := by decide +kernel
theorem dX11_swapTrains_41 : decode cX11_swapTrains 41 = .ok (.invokestatic 53, 3) := by decide +kernel
theorem dX11_swapTrains_44 : decode cX11_swapTrains 44 = .ok (.aload_n 0, 1) := by decide +kernel
theorem dX11_swapTrains_45 : decode cX11_swapTrains 45 = .ok (.getfield 22, 3) := by decide +kernel
theorem dX11_swapTrains_48 : decode cX11_swapTrains 48 = .ok (.iload_n 2, 1) := by decide +kernel
theorem dX11_swapTrains_49 : decode cX11_swapTrains 49 = .ok (.iload_n 3, 1) := by decide +kernel
theorem dX11_swapTrains_50 : decode cX11_swapTrains 50 = .ok (.invokestatic 53, 3) := by decide +kernel
theorem dX11_swapTrains_53 : decode cX11_swapTrains 53 = .ok (.iaload, 1) := by decide +kernel
theorem dX11_swapTrains_54 : decode cX11_swapTrains 54 = .ok (.iastore, 1) := by decide +kernel
theorem dX11_swapTrains_55 : decode cX11_swapTrains 55 = .ok (.aload_n 0, 1) := by decide +kernel
theorem dX11_swapTrains_56 : decode cX11_swapTrains 56 = .ok (.getfield 22, 3) := by decide +kernel
theorem dX11_swapTrains_59 : decode cX11_swapTrains 59 = .ok (.iload_n 2, 1) := by decide +kernel
theorem dX11_swapTrains_60 : decode cX11_swapTrains 60 = .ok (.iload_n 3, 1) := by decide +kernel
theorem dX11_swapTrains_61 : decode cX11_swapTrains 61 = .ok (.invokestatic 53, 3) := by decide +kernel
theorem dX11_swapTrains_64 : decode cX11_swapTrains 64 = .ok (.iload 4, 2) := by decide +kernel
theorem dX11_swapTrains_66 : decode cX11_swapTrains 66 = .ok (.iastore, 1) := by decide +kernel
theorem dX11_swapTrains_67 : decode cX11_swapTrains 67 = .ok (.iinc 3 1, 3) := by decide +kernel
theorem dX11_swapTrains_70 : decode cX11_swapTrains 70 = .ok (.goto (-53), 3) := by decide +kernel
theorem dX11_swapTrains_73 : decode cX11_swapTrains 73 = .ok (.aload_n 0, 1) := by decide +kernel
theorem dX11_swapTrains_74 : decode cX11_swapTrains 74 = .ok (.iload_n 1, 1) := by decide +kernel
theorem dX11_swapTrains_75 : decode cX11_swapTrains 75 = .ok (.invokevirtual 395, 3) := by decide +kernel
theorem dX11_swapTrains_78 : decode cX11_swapTrains 78 = .ok (.aload_n 0, 1) := by decide +kernel
theorem dX11_swapTrains_79 : decode cX11_swapTrains 79 = .ok (.iload_n 2, 1) := by decide +kernel
theorem dX11_swapTrains_80 : decode cX11_swapTrains 80 = .ok (.invokevirtual 395, 3) := by decide +kernel
theorem dX11_swapTrains_83 : decode cX11_swapTrains 83 = .ok (.aload_n 0, 1) := by decide +kernel
theorem dX11_swapTrains_84 : decode cX11_swapTrains 84 = .ok (.iload_n 1, 1) := by decide +kernel
theorem dX11_swapTrains_85 : decode cX11_swapTrains 85 = .ok (.invokevirtual 188, 3) := by decide +kernel
theorem dX11_swapTrains_88 : decode cX11_swapTrains 88 = .ok (.ireturn, 1) := by decide +kernel
theorem dX11_copyTrain_0 : decode cX11_copyTrain 0 = .ok (.aload_n 0, 1) := by decide +kernel
theorem dX11_copyTrain_1 : decode cX11_copyTrain 1 = .ok (.iload_n 1, 1) := by decide +kernel
theorem dX11_copyTrain_2 : decode cX11_copyTrain 2 = .ok (.iload_n 2, 1) := by decide +kernel
theorem dX11_copyTrain_3 : decode cX11_copyTrain 3 = .ok (.invokevirtual 422, 3) := by decide +kernel
theorem dX11_copyTrain_6 : decode cX11_copyTrain 6 = .ok (.ifCond .eq 5, 3) := by decide +kernel
theorem dX11_copyTrain_9 : decode cX11_copyTrain 9 = .ok (.iconst 0, 1) := by decide +kernel
theorem dX11_copyTrain_10 : decode cX11_copyTrain 10 = .ok (.ireturn, 1) := by decide +kernel
theorem dX11_copyTrain_11 : decode cX11_copyTrain 11 = .ok (.aload_n 0, 1) := by decide +kernel
theorem dX11_copyTrain_12 : decode cX11_copyTrain 12 = .ok (.invokevirtual 392, 3) := by decide +kernel
theorem dX11_copyTrain_15 : decode cX11_copyTrain 15 = .ok (.aload_n 0, 1) := by decide +kernel
theorem dX11_copyTrain_16 : decode cX11_copyTrain 16 = .ok (.getfield 22, 3) := by decide +kernel
theorem dX11_copyTrain_19 : decode cX11_copyTrain 19 = .ok (.iload_n 1, 1) := by decide +kernel
theorem dX11_copyTrain_20 : decode cX11_copyTrain 20 = .ok (.iconst 0, 1) := by decide +kernel
theorem dX11_copyTrain_21 : decode cX11_copyTrain 21 = .ok (.invokestatic 53, 3) := by decide +kernel
theorem dX11_copyTrain_24 : decode cX11_copyTrain 24 = .ok (.aload_n 0, 1) := by decide +kernel
theorem dX11_copyTrain_25 : decode cX11_copyTrain 25 = .ok (.getfield 22, 3) := by decide +kernel
theorem dX11_copyTrain_28 : decode cX11_copyTrain 28 = .ok (.iload_n 2, 1) := by decide +kernel
theorem dX11_copyTrain_29 : decode cX11_copyTrain 29 = .ok (.iconst 0, 1) := by decide +kernel
theorem dX11_copyTrain_30 : decode cX11_copyTrain 30 = .ok (.invokestatic 53, 3) := by decide +kernel
theorem dX11_copyTrain_33 : decode cX11_copyTrain 33 = .ok (.bipush 14, 2) := by decide +kernel
theorem dX11_copyTrain_35 : decode cX11_copyTrain 35 = .ok (.invokestatic 60, 3) := by decide +kernel
theorem dX11_copyTrain_38 : decode cX11_copyTrain 38 = .ok (.aload_n 0, 1) := by decide +kernel
theorem dX11_copyTrain_39 : decode cX11_copyTrain 39 = .ok (.iload_n 2, 1) := by decide +kernel
theorem dX11_copyTrain_40 : decode cX11_copyTrain 40 = .ok (.invokevirtual 395, 3) := by decide +kernel
theorem dX11_copyTrain_43 : decode cX11_copyTrain 43 = .ok (.aload_n 0, 1) := by decide +kernel
theorem dX11_copyTrain_44 : decode cX11_copyTrain 44 = .ok (.iload_n 2, 1) := by decide +kernel
theorem dX11_copyTrain_45 : decode cX11_copyTrain 45 = .ok (.invokevirtual 188, 3) := by decide +kernel
theorem dX11_copyTrain_48 : decode cX11_copyTrain 48 = .ok (.ireturn, 1) := by decide +kernel
theorem dX11_undo_0 : decode cX11_undo 0 = .ok (.aload_n 0, 1) := by decide +kernel
theorem dX11_undo_1 : decode cX11_undo 1 = .ok (.iconst 0, 1) := by decide +kernel
theorem dX11_undo_2 : decode cX11_undo 2 = .ok (.putfield 50, 3) := by decide +kernel
theorem dX11_undo_5 : decode cX11_undo 5 = .ok (.aload_n 0, 1) := by decide +kernel
theorem dX11_undo_6 : decode cX11_undo 6 = .ok (.getfield 57, 3) := by decide +kernel
theorem dX11_undo_9 : decode cX11_undo 9 = .ok (.ifCond .ne 5, 3) := by decide +kernel
theorem dX11_undo_12 : decode cX11_undo 12 = .ok (.iconst (-1), 1) := by decide +kernel
theorem dX11_undo_13 : decode cX11_undo 13 = .ok (.ireturn, 1) := by decide +kernel
theorem dX11_undo_14 : decode cX11_undo 14 = .ok (.aload_n 0, 1) := by decide +kernel
theorem dX11_undo_15 : decode cX11_undo 15 = .ok (.dup, 1) := by decide +kernel
theorem dX11_undo_16 : decode cX11_undo 16 = .ok (.getfield 57, 3) := by decide +kernel
theorem dX11_undo_19 : decode cX11_undo 19 = .ok (.iconst 1, 1) := by decide +kernel
theorem dX11_undo_20 : decode cX11_undo 20 = .ok (.isub, 1) := by decide +kernel
theorem dX11_undo_21 : decode cX11_undo 21 = .ok (.putfield 57, 3) := by decide +kernel
theorem dX11_undo_24 : decode cX11_undo 24 = .ok (.aload_n 0, 1) := by decide +kernel
theorem dX11_undo_25 : decode cX11_undo 25 = .ok (.getfield 31, 3) := by decide +kernel
theorem dX11_undo_28 : decode cX11_undo 28 = .ok (.sipush 131, 3) := by decide +kernel
theorem dX11_undo_31 : decode cX11_undo 31 = .ok (.aload_n 0, 1) := by decide +kernel
theorem dX11_undo_32 : decode cX11_undo 32 = .ok (.getfield 57, 3) := by decide +kernel
theorem dX11_undo_35 : decode cX11_undo 35 = .ok (.imul, 1) := by decide +kernel
theorem dX11_undo_36 : decode cX11_undo 36 = .ok (.aload_n 0, 1) := by decide +kernel
theorem dX11_undo_37 : decode cX11_undo 37 = .ok (.getfield 22, 3) := by decide +kernel
theorem dX11_undo_40 : decode cX11_undo 40 = .ok (.iconst 0, 1) := by decide +kernel
theorem dX11_undo_41 : decode cX11_undo 41 = .ok (.sipush 131, 3) := by decide +kernel
theorem dX11_undo_44 : decode cX11_undo 44 = .ok (.invokestatic 60, 3) := by decide +kernel
theorem dX11_undo_47 : decode cX11_undo 47 = .ok (.aload_n 0, 1) := by decide +kernel
theorem dX11_undo_48 : decode cX11_undo 48 = .ok (.getfield 57, 3) := by decide +kernel
theorem dX11_undo_51 : decode cX11_undo 51 = .ok (.ireturn, 1) := by decide +kernel
theorem dX11_saveState_0 : decode cX11_saveState 0 = .ok (.aload_n 0, 1) := by decide +kernel
theorem dX11_saveState_1 : decode cX11_saveState 1 = .ok (.iconst 0, 1) := by decide +kernel
theorem dX11_saveState_2 : decode cX11_saveState 2 = .ok (.putfield 50, 3) := by decide +kernel
theorem dX11_saveState_5 : decode cX11_saveState 5 = .ok (.aload_n 0, 1) := by decide +kernel
theorem dX11_saveState_6 : decode cX11_saveState 6 = .ok (.getfield 22, 3) := by decide +kernel
theorem dX11_saveState_9 : decode cX11_saveState 9 = .ok (.iconst 0, 1) := by decide +kernel
theorem dX11_saveState_10 : decode cX11_saveState 10 = .ok (.aload_n 0, 1) := by decide +kernel
theorem dX11_saveState_11 : decode cX11_saveState 11 = .ok (.getfield 28, 3) := by decide +kernel
theorem dX11_saveState_14 : decode cX11_saveState 14 = .ok (.iconst 0, 1) := by decide +kernel
theorem dX11_saveState_15 : decode cX11_saveState 15 = .ok (.sipush 131, 3) := by decide +kernel
theorem dX11_saveState_18 : decode cX11_saveState 18 = .ok (.invokestatic 60, 3) := by decide +kernel
theorem dX11_saveState_21 : decode cX11_saveState 21 = .ok (.aload_n 0, 1) := by decide +kernel
theorem dX11_saveState_22 : decode cX11_saveState 22 = .ok (.iconst 1, 1) := by decide +kernel
theorem dX11_saveState_23 : decode cX11_saveState 23 = .ok (.putfield 235, 3) := by decide +kernel
theorem dX11_saveState_26 : decode cX11_saveState 26 = .ok (.aload_n 0, 1) := by decide +kernel
theorem dX11_saveState_27 : decode cX11_saveState 27 = .ok (.getfield 22, 3) := by decide +kernel
theorem dX11_saveState_30 : decode cX11_saveState 30 = .ok (.bipush 18, 2) := by decide +kernel
theorem dX11_saveState_32 : decode cX11_saveState 32 = .ok (.iaload, 1) := by decide +kernel
theorem dX11_saveState_33 : decode cX11_saveState 33 = .ok (.ireturn, 1) := by decide +kernel
theorem dX11_restoreState_0 : decode cX11_restoreState 0 = .ok (.aload_n 0, 1) := by decide +kernel
theorem dX11_restoreState_1 : decode cX11_restoreState 1 = .ok (.iconst 0, 1) := by decide +kernel
theorem dX11_restoreState_2 : decode cX11_restoreState 2 = .ok (.putfield 50, 3) := by decide +kernel
theorem dX11_restoreState_5 : decode cX11_restoreState 5 = .ok (.aload_n 0, 1) := by decide +kernel
theorem dX11_restoreState_6 : decode cX11_restoreState 6 = .ok (.aload_n 0, 1) := by decide +kernel
theorem dX11_restoreState_7 : decode cX11_restoreState 7 = .ok (.getfield 235, 3) := by decide +kernel
theorem dX11_restoreState_10 : decode cX11_restoreState 10 = .ok (.ifCond .ne 7, 3) := by decide +kernel
theorem dX11_restoreState_13 : decode cX11_restoreState 13 = .ok (.iconst 1, 1) := by decide +kernel
theorem dX11_restoreState_14 : decode cX11_restoreState 14 = .ok (.goto 4, 3) := by decide +kernel
theorem dX11_restoreState_17 : decode cX11_restoreState 17 = .ok (.iconst 0, 1) := by decide +kernel
theorem dX11_restoreState_18 : decode cX11_restoreState 18 = .ok (.iconst 1, 1) := by decide +kernel
theorem dX11_restoreState_19 : decode cX11_restoreState 19 = .ok (.invokevirtual 309, 3) := by decide +kernel
theorem dX11_restoreState_22 : decode cX11_restoreState 22 = .ok (.ifCond .eq 5, 3) := by decide +kernel
theorem dX11_restoreState_25 : decode cX11_restoreState 25 = .ok (.iconst 0, 1) := by decide +kernel
theorem dX11_restoreState_26 : decode cX11_restoreState 26 = .ok (.ireturn, 1) := by decide +kernel
theorem dX11_restoreState_27 : decode cX11_restoreState 27 = .ok (.aload_n 0, 1) := by decide +kernel
theorem dX11_restoreState_28 : decode cX11_restoreState 28 = .ok (.getfield 28, 3) := by decide +kernel
theorem dX11_restoreState_31 : decode cX11_restoreState 31 = .ok (.iconst 0, 1) := by decide +kernel
theorem dX11_restoreState_32 : decode cX11_restoreState 32 = .ok (.aload_n 0, 1) := by decide +kernel
theorem dX11_restoreState_33 : decode cX11_restoreState 33 = .ok (.getfield 22, 3) := by decide +kernel
theorem dX11_restoreState_36 : decode cX11_restoreState 36 = .ok (.iconst 0, 1) := by decide +kernel
theorem dX11_restoreState_37 : decode cX11_restoreState 37 = .ok (.sipush 131, 3) := by decide +kernel
theorem dX11_restoreState_40 : decode cX11_restoreState 40 = .ok (.invokestatic 60, 3) := by decide +kernel
theorem dX11_restoreState_43 : decode cX11_restoreState 43 = .ok (.aload_n 0, 1) := by decide +kernel
theorem dX11_restoreState_44 : decode cX11_restoreState 44 = .ok (.iconst 0, 1) := by decide +kernel
theorem dX11_restoreState_45 : decode cX11_restoreState 45 = .ok (.putfield 57, 3) := by decide +kernel
theorem dX11_restoreState_48 : decode cX11_restoreState 48 = .ok (.aload_n 0, 1) := by decide +kernel
theorem dX11_restoreState_49 : decode cX11_restoreState 49 = .ok (.getfield 22, 3) := by decide +kernel
theorem dX11_restoreState_52 : decode cX11_restoreState 52 = .ok (.bipush 18, 2) := by decide +kernel
theorem dX11_restoreState_54 : decode cX11_restoreState 54 = .ok (.iaload, 1) := by decide +kernel
theorem dX11_restoreState_55 : decode cX11_restoreState 55 = .ok (.ireturn, 1) := by decide +kernel
theorem dX11_areNear_0 : decode cX11_areNear 0 = .ok (.aload_n 0, 1) := by decide +kernel
theorem dX11_areNear_1 : decode cX11_areNear 1 = .ok (.iload_n 1, 1) := by decide +kernel
theorem dX11_areNear_2 : decode cX11_areNear 2 = .ok (.iload_n 3, 1) := by decide +kernel
theorem dX11_areNear_3 : decode cX11_areNear 3 = .ok (.invokevirtual 341, 3) := by decide +kernel
theorem dX11_areNear_6 : decode cX11_areNear 6 = .ok (.aload_n 0, 1) := by decide +kernel
theorem dX11_areNear_7 : decode cX11_areNear 7 = .ok (.iload_n 2, 1) := by decide +kernel
theorem dX11_areNear_8 : decode cX11_areNear 8 = .ok (.iload_n 3, 1) := by decide +kernel
theorem dX11_areNear_9 : decode cX11_areNear 9 = .ok (.invokevirtual 341, 3) := by decide +kernel
theorem dX11_areNear_12 : decode cX11_areNear 12 = .ok (.isub, 1) := by decide +kernel
theorem dX11_areNear_13 : decode cX11_areNear 13 = .ok (.invokestatic 425, 3) := by decide +kernel
theorem dX11_areNear_16 : decode cX11_areNear 16 = .ok (.istore 5, 2) := by decide +kernel
theorem dX11_areNear_18 : decode cX11_areNear 18 = .ok (.iload 5, 2) := by decide +kernel
theorem dX11_areNear_20 : decode cX11_areNear 20 = .ok (.ldc_w 427, 3) := by decide +kernel
theorem dX11_areNear_23 : decode cX11_areNear 23 = .ok (.iload 5, 2) := by decide +kernel
theorem dX11_areNear_25 : decode cX11_areNear 25 = .ok (.isub, 1) := by decide +kernel
theorem dX11_areNear_26 : decode cX11_areNear 26 = .ok (.invokestatic 428, 3) := by decide +kernel
theorem dX11_areNear_29 : decode cX11_areNear 29 = .ok (.iload 4, 2) := by decide +kernel
theorem dX11_areNear_31 : decode cX11_areNear 31 = .ok (.if_icmp .gt 7, 3) := by decide +kernel
theorem dX11_areNear_34 : decode cX11_areNear 34 = .ok (.iconst 1, 1) := by decide +kernel
theorem dX11_areNear_35 : decode cX11_areNear 35 = .ok (.goto 4, 3) := by decide +kernel
theorem dX11_areNear_38 : decode cX11_areNear 38 = .ok (.iconst 0, 1) := by decide +kernel
theorem dX11_areNear_39 : decode cX11_areNear 39 = .ok (.ireturn, 1) := by decide +kernel
theorem dX11_nextMeeting_0 : decode cX11_nextMeeting 0 = .ok (.aload_n 0, 1) := by decide +kernel
theorem dX11_nextMeeting_1 : decode cX11_nextMeeting 1 = .ok (.iload_n 1, 1) := by decide +kernel
theorem dX11_nextMeeting_2 : decode cX11_nextMeeting 2 = .ok (.invokevirtual 319, 3) := by decide +kernel
theorem dX11_nextMeeting_5 : decode cX11_nextMeeting 5 = .ok (.ifCond .ne 49, 3) := by decide +kernel
theorem dX11_nextMeeting_8 : decode cX11_nextMeeting 8 = .ok (.aload_n 0, 1) := by decide +kernel
theorem dX11_nextMeeting_9 : decode cX11_nextMeeting 9 = .ok (.iload_n 2, 1) := by decide +kernel
theorem dX11_nextMeeting_10 : decode cX11_nextMeeting 10 = .ok (.invokevirtual 319, 3) := by decide +kernel
theorem dX11_nextMeeting_13 : decode cX11_nextMeeting 13 = .ok (.ifCond .ne 41, 3) := by decide +kernel
theorem dX11_nextMeeting_16 : decode cX11_nextMeeting 16 = .ok (.aload_n 0, 1) := by decide +kernel
theorem dX11_nextMeeting_17 : decode cX11_nextMeeting 17 = .ok (.iload_n 3, 1) := by decide +kernel
theorem dX11_nextMeeting_18 : decode cX11_nextMeeting 18 = .ok (.i2l, 1) := by decide +kernel
theorem dX11_nextMeeting_19 : decode cX11_nextMeeting 19 = .ok (.lconst 0, 1) := by decide +kernel
theorem dX11_nextMeeting_20 : decode cX11_nextMeeting 20 = .ok (.ldc2_w 430, 3) := by decide +kernel
theorem dX11_nextMeeting_23 : decode cX11_nextMeeting 23 = .ok (.invokestatic 71, 3) := by decide +kernel
theorem dX11_nextMeeting_26 : decode cX11_nextMeeting 26 = .ok (.ifCond .eq 16, 3) := by decide +kernel
theorem dX11_nextMeeting_29 : decode cX11_nextMeeting 29 = .ok (.iload 4, 2) := by decide +kernel
theorem dX11_nextMeeting_31 : decode cX11_nextMeeting 31 = .ok (.i2l, 1) := by decide +kernel
theorem dX11_nextMeeting_32 : decode cX11_nextMeeting 32 = .ok (.lconst 0, 1) := by decide +kernel
theorem dX11_nextMeeting_33 : decode cX11_nextMeeting 33 = .ok (.ldc2_w 432, 3) := by decide +kernel
theorem dX11_nextMeeting_36 : decode cX11_nextMeeting 36 = .ok (.invokestatic 71, 3) := by decide +kernel
theorem dX11_nextMeeting_39 : decode cX11_nextMeeting 39 = .ok (.ifCond .ne 7, 3) := by decide +kernel
theorem dX11_nextMeeting_42 : decode cX11_nextMeeting 42 = .ok (.iconst 1, 1) := by decide +kernel
theorem dX11_nextMeeting_43 : decode cX11_nextMeeting 43 = .ok (.goto 4, 3) := by decide +kernel
theorem dX11_nextMeeting_46 : decode cX11_nextMeeting 46 = .ok (.iconst 0, 1) := by decide +kernel
theorem dX11_nextMeeting_47 : decode cX11_nextMeeting 47 = .ok (.iconst 2, 1) := by decide +kernel
theorem dX11_nextMeeting_48 : decode cX11_nextMeeting 48 = .ok (.invokevirtual 309, 3) := by decide +kernel
theorem dX11_nextMeeting_51 : decode cX11_nextMeeting 51 = .ok (.ifCond .eq 5, 3) := by decide +kernel
theorem dX11_nextMeeting_54 : decode cX11_nextMeeting 54 = .ok (.iconst 0, 1) := by decide +kernel
theorem dX11_nextMeeting_55 : decode cX11_nextMeeting 55 = .ok (.ireturn, 1) := by decide +kernel
theorem dX11_nextMeeting_56 : decode cX11_nextMeeting 56 = .ok (.iload_n 3, 1) := by decide +kernel
theorem dX11_nextMeeting_57 : decode cX11_nextMeeting 57 = .ok (.iconst 1, 1) := by decide +kernel
theorem dX11_nextMeeting_58 : decode cX11_nextMeeting 58 = .ok (.iadd, 1) := by decide +kernel
theorem dX11_nextMeeting_59 : decode cX11_nextMeeting 59 = .ok (.istore 5, 2) := by decide +kernel
theorem dX11_nextMeeting_61 : decode cX11_nextMeeting 61 = .ok (.iload 5, 2) := by decide +kernel
theorem dX11_nextMeeting_63 : decode cX11_nextMeeting 63 = .ok (.iload_n 3, 1) := by decide +kernel
theorem dX11_nextMeeting_64 : decode cX11_nextMeeting 64 = .ok (.sipush 10000, 3) := by decide +kernel
theorem dX11_nextMeeting_67 : decode cX11_nextMeeting 67 = .ok (.iadd, 1) := by decide +kernel
theorem dX11_nextMeeting_68 : decode cX11_nextMeeting 68 = .ok (.if_icmp .gt 25, 3) := by decide +kernel
theorem dX11_nextMeeting_71 : decode cX11_nextMeeting 71 = .ok (.aload_n 0, 1) := by decide +kernel
theorem dX11_nextMeeting_72 : decode cX11_nextMeeting 72 = .ok (.iload_n 1, 1) := by decide +kernel
theorem dX11_nextMeeting_73 : decode cX11_nextMeeting 73 = .ok (.iload_n 2, 1) := by decide +kernel
theorem dX11_nextMeeting_74 : decode cX11_nextMeeting 74 = .ok (.iload 5, 2) := by decide +kernel
theorem dX11_nextMeeting_76 : decode cX11_nextMeeting 76 = .ok (.iload 4, 2) := by decide +kernel
theorem dX11_nextMeeting_78 : decode cX11_nextMeeting 78 = .ok (.invokevirtual 434, 3) := by decide +kernel
theorem dX11_nextMeeting_81 : decode cX11_nextMeeting 81 = .ok (.ifCond .eq 6, 3) := by decide +kernel
theorem dX11_nextMeeting_84 : decode cX11_nextMeeting 84 = .ok (.iload 5, 2) := by decide +kernel
theorem dX11_nextMeeting_86 : decode cX11_nextMeeting 86 = .ok (.ireturn, 1) := by decide +kernel
theorem dX11_nextMeeting_87 : decode cX11_nextMeeting 87 = .ok (.iinc 5 1, 3) := by decide +kernel
theorem dX11_nextMeeting_90 : decode cX11_nextMeeting 90 = .ok (.goto (-29), 3) := by decide +kernel
theorem dX11_nextMeeting_93 : decode cX11_nextMeeting 93 = .ok (.iconst (-1), 1) := by decide +kernel
theorem dX11_nextMeeting_94 : decode cX11_nextMeeting 94 = .ok (.ireturn, 1) := by decide +kernel
theorem dX11_meetingTime_0 : decode cX11_meetingTime 0 = .ok (.aload_n 0, 1) := by decide +kernel
theorem dX11_meetingTime_1 : decode cX11_meetingTime 1 = .ok (.iload_n 1, 1) := by decide +kernel
theorem dX11_meetingTime_2 : decode cX11_meetingTime 2 = .ok (.invokevirtual 319, 3) := by decide +kernel
theorem dX11_meetingTime_5 : decode cX11_meetingTime 5 = .ok (.ifCond .ne 34, 3) := by decide +kernel
theorem dX11_meetingTime_8 : decode cX11_meetingTime 8 = .ok (.aload_n 0, 1) := by decide +kernel
theorem dX11_meetingTime_9 : decode cX11_meetingTime 9 = .ok (.iload_n 2, 1) := by decide +kernel
theorem dX11_meetingTime_10 : decode cX11_meetingTime 10 = .ok (.invokevirtual 319, 3) := by decide +kernel
theorem dX11_meetingTime_13 : decode cX11_meetingTime 13 = .ok (.ifCond .ne 26, 3) := by decide +kernel
theorem dX11_meetingTime_16 : decode cX11_meetingTime 16 = .ok (.aload_n 0, 1) := by decide +kernel
theorem dX11_meetingTime_17 : decode cX11_meetingTime 17 = .ok (.iload_n 3, 1) := by decide +kernel
theorem dX11_meetingTime_18 : decode cX11_meetingTime 18 = .ok (.i2l, 1) := by decide +kernel
theorem dX11_meetingTime_19 : decode cX11_meetingTime 19 = .ok (.lconst 0, 1) := by decide +kernel
theorem dX11_meetingTime_20 : decode cX11_meetingTime 20 = .ok (.lconst 1, 1) := by decide +kernel
theorem dX11_meetingTime_21 : decode cX11_meetingTime 21 = .ok (.invokestatic 71, 3) := by decide +kernel
theorem dX11_meetingTime_24 : decode cX11_meetingTime 24 = .ok (.ifCond .ne 7, 3) := by decide +kernel
theorem dX11_meetingTime_27 : decode cX11_meetingTime 27 = .ok (.iconst 1, 1) := by decide +kernel
theorem dX11_meetingTime_28 : decode cX11_meetingTime 28 = .ok (.goto 4, 3) := by decide +kernel
theorem dX11_meetingTime_31 : decode cX11_meetingTime 31 = .ok (.iconst 0, 1) := by decide +kernel
theorem dX11_meetingTime_32 : decode cX11_meetingTime 32 = .ok (.iconst 2, 1) := by decide +kernel
theorem dX11_meetingTime_33 : decode cX11_meetingTime 33 = .ok (.invokevirtual 309, 3) := by decide +kernel
theorem dX11_meetingTime_36 : decode cX11_meetingTime 36 = .ok (.ifCond .eq 5, 3) := by decide +kernel
theorem dX11_meetingTime_39 : decode cX11_meetingTime 39 = .ok (.lconst 0, 1) := by decide +kernel
theorem dX11_meetingTime_40 : decode cX11_meetingTime 40 = .ok (.lreturn, 1) := by decide +kernel
theorem dX11_meetingTime_41 : decode cX11_meetingTime 41 = .ok (.aload_n 0, 1) := by decide +kernel
theorem dX11_meetingTime_42 : decode cX11_meetingTime 42 = .ok (.iload_n 1, 1) := by decide +kernel
theorem dX11_meetingTime_43 : decode cX11_meetingTime 43 = .ok (.invokevirtual 278, 3) := by decide +kernel
theorem dX11_meetingTime_46 : decode cX11_meetingTime 46 = .ok (.aload_n 0, 1) := by decide +kernel
theorem dX11_meetingTime_47 : decode cX11_meetingTime 47 = .ok (.getfield 249, 3) := by decide +kernel
theorem dX11_meetingTime_50 : decode cX11_meetingTime 50 = .ok (.lstore 4, 2) := by decide +kernel
theorem dX11_meetingTime_52 : decode cX11_meetingTime 52 = .ok (.aload_n 0, 1) := by decide +kernel
theorem dX11_meetingTime_53 : decode cX11_meetingTime 53 = .ok (.getfield 253, 3) := by decide +kernel
theorem dX11_meetingTime_56 : decode cX11_meetingTime 56 = .ok (.lstore 6, 2) := by decide +kernel
theorem dX11_meetingTime_58 : decode cX11_meetingTime 58 = .ok (.aload_n 0, 1) := by decide +kernel
theorem dX11_meetingTime_59 : decode cX11_meetingTime 59 = .ok (.iload_n 2, 1) := by decide +kernel
theorem dX11_meetingTime_60 : decode cX11_meetingTime 60 = .ok (.invokevirtual 278, 3) := by decide +kernel
theorem dX11_meetingTime_63 : decode cX11_meetingTime 63 = .ok (.lload 4, 2) := by decide +kernel
theorem dX11_meetingTime_65 : decode cX11_meetingTime 65 = .ok (.aload_n 0, 1) := by decide +kernel
theorem dX11_meetingTime_66 : decode cX11_meetingTime 66 = .ok (.getfield 253, 3) := by decide +kernel
theorem dX11_meetingTime_69 : decode cX11_meetingTime 69 = .ok (.lmul, 1) := by decide +kernel
theorem dX11_meetingTime_70 : decode cX11_meetingTime 70 = .ok (.aload_n 0, 1) := by decide +kernel
theorem dX11_meetingTime_71 : decode cX11_meetingTime 71 = .ok (.getfield 249, 3) := by decide +kernel
theorem dX11_meetingTime_74 : decode cX11_meetingTime 74 = .ok (.lload 6, 2) := by decide +kernel
theorem dX11_meetingTime_76 : decode cX11_meetingTime 76 = .ok (.lmul, 1) := by decide +kernel
theorem dX11_meetingTime_77 : decode cX11_meetingTime 77 = .ok (.lsub, 1) := by decide +kernel
theorem dX11_meetingTime_78 : decode cX11_meetingTime 78 = .ok (.invokestatic 239, 3) := by decide +kernel
theorem dX11_meetingTime_81 : decode cX11_meetingTime 81 = .ok (.lstore 8, 2) := by decide +kernel
theorem dX11_meetingTime_83 : decode cX11_meetingTime 83 = .ok (.lload 8, 2) := by decide +kernel
theorem dX11_meetingTime_85 : decode cX11_meetingTime 85 = .ok (.lconst 0, 1) := by decide +kernel
theorem dX11_meetingTime_86 : decode cX11_meetingTime 86 = .ok (.lcmp, 1) := by decide +kernel
theorem dX11_meetingTime_87 : decode cX11_meetingTime 87 = .ok (.ifCond .ne 7, 3) := by decide +kernel
theorem dX11_meetingTime_90 : decode cX11_meetingTime 90 = .ok (.ldc2_w 347, 3) := by decide +kernel
theorem dX11_meetingTime_93 : decode cX11_meetingTime 93 = .ok (.lreturn, 1) := by decide +kernel
theorem dX11_meetingTime_94 : decode cX11_meetingTime 94 = .ok (.aload_n 0, 1) := by decide +kernel
theorem dX11_meetingTime_95 : decode cX11_meetingTime 95 = .ok (.lload 6, 2) := by decide +kernel
theorem dX11_meetingTime_97 : decode cX11_meetingTime 97 = .ok (.aload_n 0, 1) := by decide +kernel
theorem dX11_meetingTime_98 : decode cX11_meetingTime 98 = .ok (.getfield 253, 3) := by decide +kernel
theorem dX11_meetingTime_101 : decode cX11_meetingTime 101 = .ok (.lmul, 1) := by decide +kernel
theorem dX11_meetingTime_102 : decode cX11_meetingTime 102 = .ok (.lload 8, 2) := by decide +kernel
theorem dX11_meetingTime_104 : decode cX11_meetingTime 104 = .ok (.invokevirtual 264, 3) := by decide +kernel
theorem dX11_meetingTime_107 : decode cX11_meetingTime 107 = .ok (.iload_n 3, 1) := by decide +kernel
theorem dX11_meetingTime_108 : decode cX11_meetingTime 108 = .ok (.ifCond .ne 10, 3) := by decide +kernel
theorem dX11_meetingTime_111 : decode cX11_meetingTime 111 = .ok (.aload_n 0, 1) := by decide +kernel
theorem dX11_meetingTime_112 : decode cX11_meetingTime 112 = .ok (.getfield 249, 3) := by decide +kernel
theorem dX11_meetingTime_115 : decode cX11_meetingTime 115 = .ok (.goto 7, 3) := by decide +kernel
theorem dX11_meetingTime_118 : decode cX11_meetingTime 118 = .ok (.aload_n 0, 1) := by decide +kernel
theorem dX11_meetingTime_119 : decode cX11_meetingTime 119 = .ok (.getfield 253, 3) := by decide +kernel
theorem dX11_meetingTime_122 : decode cX11_meetingTime 122 = .ok (.lreturn, 1) := by decide +kernel
theorem dX11_aligned_0 : decode cX11_aligned 0 = .ok (.aload_n 0, 1) := by decide +kernel
theorem dX11_aligned_1 : decode cX11_aligned 1 = .ok (.iload_n 1, 1) := by decide +kernel
theorem dX11_aligned_2 : decode cX11_aligned 2 = .ok (.invokevirtual 319, 3) := by decide +kernel
theorem dX11_aligned_5 : decode cX11_aligned 5 = .ok (.ifCond .ne 35, 3) := by decide +kernel
theorem dX11_aligned_8 : decode cX11_aligned 8 = .ok (.aload_n 0, 1) := by decide +kernel
theorem dX11_aligned_9 : decode cX11_aligned 9 = .ok (.iload_n 2, 1) := by decide +kernel
theorem dX11_aligned_10 : decode cX11_aligned 10 = .ok (.invokestatic 338, 3) := by decide +kernel
theorem dX11_aligned_13 : decode cX11_aligned 13 = .ok (.ifCond .eq 15, 3) := by decide +kernel
theorem dX11_aligned_16 : decode cX11_aligned 16 = .ok (.iload_n 3, 1) := by decide +kernel
theorem dX11_aligned_17 : decode cX11_aligned 17 = .ok (.i2l, 1) := by decide +kernel
theorem dX11_aligned_18 : decode cX11_aligned 18 = .ok (.lconst 0, 1) := by decide +kernel
theorem dX11_aligned_19 : decode cX11_aligned 19 = .ok (.ldc2_w 432, 3) := by decide +kernel
theorem dX11_aligned_22 : decode cX11_aligned 22 = .ok (.invokestatic 71, 3) := by decide +kernel
theorem dX11_aligned_25 : decode cX11_aligned 25 = .ok (.ifCond .ne 7, 3) := by decide +kernel
theorem dX11_aligned_28 : decode cX11_aligned 28 = .ok (.iconst 1, 1) := by decide +kernel
theorem dX11_aligned_29 : decode cX11_aligned 29 = .ok (.goto 4, 3) := by decide +kernel
theorem dX11_aligned_32 : decode cX11_aligned 32 = .ok (.iconst 0, 1) := by decide +kernel
theorem dX11_aligned_33 : decode cX11_aligned 33 = .ok (.iconst 2, 1) := by decide +kernel
theorem dX11_aligned_34 : decode cX11_aligned 34 = .ok (.invokevirtual 309, 3) := by decide +kernel
theorem dX11_aligned_37 : decode cX11_aligned 37 = .ok (.ifCond .eq 5, 3) := by decide +kernel
theorem dX11_aligned_40 : decode cX11_aligned 40 = .ok (.iconst 0, 1) := by decide +kernel
theorem dX11_aligned_41 : decode cX11_aligned 41 = .ok (.ireturn, 1) := by decide +kernel
theorem dX11_aligned_42 : decode cX11_aligned 42 = .ok (.iconst 0, 1) := by decide +kernel
theorem dX11_aligned_43 : decode cX11_aligned 43 = .ok (.istore 4, 2) := by decide +kernel
theorem dX11_aligned_45 : decode cX11_aligned 45 = .ok (.iconst 0, 1) := by decide +kernel
theorem dX11_aligned_46 : decode cX11_aligned 46 = .ok (.istore 5, 2) := by decide +kernel
theorem dX11_aligned_48 : decode cX11_aligned 48 = .ok (.iload 5, 2) := by decide +kernel
theorem dX11_aligned_50 : decode cX11_aligned 50 = .ok (.aload_n 0, 1) := by decide +kernel
theorem dX11_aligned_51 : decode cX11_aligned 51 = .ok (.getfield 7, 3) := by decide +kernel
theorem dX11_aligned_54 : decode cX11_aligned 54 = .ok (.iconst 0, 1) := by decide +kernel
theorem dX11_aligned_55 : decode cX11_aligned 55 = .ok (.iaload, 1) := by decide +kernel
theorem dX11_aligned_56 : decode cX11_aligned 56 = .ok (.if_icmp .ge 34, 3) := by decide +kernel
theorem dX11_aligned_59 : decode cX11_aligned 59 = .ok (.iload 4, 2) := by decide +kernel
theorem dX11_aligned_61 : decode cX11_aligned 61 = .ok (.aload_n 0, 1) := by decide +kernel
theorem dX11_aligned_62 : decode cX11_aligned 62 = .ok (.iload_n 1, 1) := by decide +kernel
theorem dX11_aligned_63 : decode cX11_aligned 63 = .ok (.iload 5, 2) := by decide +kernel
theorem dX11_aligned_65 : decode cX11_aligned 65 = .ok (.iload_n 2, 1) := by decide +kernel
theorem dX11_aligned_66 : decode cX11_aligned 66 = .ok (.iload_n 3, 1) := by decide +kernel
theorem dX11_aligned_67 : decode cX11_aligned 67 = .ok (.invokevirtual 434, 3) := by decide +kernel
theorem dX11_aligned_70 : decode cX11_aligned 70 = .ok (.ifCond .eq 10, 3) := by decide +kernel
theorem dX11_aligned_73 : decode cX11_aligned 73 = .ok (.iconst 1, 1) := by decide +kernel
theorem dX11_aligned_74 : decode cX11_aligned 74 = .ok (.iload 5, 2) := by decide +kernel
theorem dX11_aligned_76 : decode cX11_aligned 76 = .ok (.ishl, 1) := by decide +kernel
theorem dX11_aligned_77 : decode cX11_aligned 77 = .ok (.goto 4, 3) := by decide +kernel
theorem dX11_aligned_80 : decode cX11_aligned 80 = .ok (.iconst 0, 1) := by decide +kernel
theorem dX11_aligned_81 : decode cX11_aligned 81 = .ok (.ior, 1) := by decide +kernel
theorem dX11_aligned_82 : decode cX11_aligned 82 = .ok (.istore 4, 2) := by decide +kernel
theorem dX11_aligned_84 : decode cX11_aligned 84 = .ok (.iinc 5 1, 3) := by decide +kernel
theorem dX11_aligned_87 : decode cX11_aligned 87 = .ok (.goto (-39), 3) := by decide +kernel
theorem dX11_aligned_90 : decode cX11_aligned 90 = .ok (.iload 4, 2) := by decide +kernel
theorem dX11_aligned_92 : decode cX11_aligned 92 = .ok (.ireturn, 1) := by decide +kernel
theorem dX11_accuracy_0 : decode cX11_accuracy 0 = .ok (.aload_n 0, 1) := by decide +kernel
theorem dX11_accuracy_1 : decode cX11_accuracy 1 = .ok (.iload_n 1, 1) := by decide +kernel
theorem dX11_accuracy_2 : decode cX11_accuracy 2 = .ok (.invokevirtual 319, 3) := by decide +kernel
theorem dX11_accuracy_5 : decode cX11_accuracy 5 = .ok (.ifCond .eq 5, 3) := by decide +kernel
theorem dX11_accuracy_8 : decode cX11_accuracy 8 = .ok (.dconst 0, 1) := by decide +kernel
theorem dX11_accuracy_9 : decode cX11_accuracy 9 = .ok (.dreturn, 1) := by decide +kernel
theorem dX11_accuracy_10 : decode cX11_accuracy 10 = .ok (.aload_n 0, 1) := by decide +kernel
theorem dX11_accuracy_11 : decode cX11_accuracy 11 = .ok (.iload_n 1, 1) := by decide +kernel
theorem dX11_accuracy_12 : decode cX11_accuracy 12 = .ok (.invokevirtual 278, 3) := by decide +kernel
theorem dX11_accuracy_15 : decode cX11_accuracy 15 = .ok (.aload_n 0, 1) := by decide +kernel
theorem dX11_accuracy_16 : decode cX11_accuracy 16 = .ok (.getfield 249, 3) := by decide +kernel
theorem dX11_accuracy_19 : decode cX11_accuracy 19 = .ok (.l2d, 1) := by decide +kernel
theorem dX11_accuracy_20 : decode cX11_accuracy 20 = .ok (.aload_n 0, 1) := by decide +kernel
theorem dX11_accuracy_21 : decode cX11_accuracy 21 = .ok (.getfield 253, 3) := by decide +kernel
theorem dX11_accuracy_24 : decode cX11_accuracy 24 = .ok (.l2d, 1) := by decide +kernel
theorem dX11_accuracy_25 : decode cX11_accuracy 25 = .ok (.ddiv, 1) := by decide +kernel
theorem dX11_accuracy_26 : decode cX11_accuracy 26 = .ok (.dstore_n 2, 1) := by decide +kernel
theorem dX11_accuracy_27 : decode cX11_accuracy 27 = .ok (.aload_n 0, 1) := by decide +kernel
theorem dX11_accuracy_28 : decode cX11_accuracy 28 = .ok (.iload_n 1, 1) := by decide +kernel
theorem dX11_accuracy_29 : decode cX11_accuracy 29 = .ok (.invokevirtual 275, 3) := by decide +kernel
theorem dX11_accuracy_32 : decode cX11_accuracy 32 = .ok (.dload_n 2, 1) := by decide +kernel
theorem dX11_accuracy_33 : decode cX11_accuracy 33 = .ok (.aload_n 0, 1) := by decide +kernel
theorem dX11_accuracy_34 : decode cX11_accuracy 34 = .ok (.getfield 249, 3) := by decide +kernel
theorem dX11_accuracy_37 : decode cX11_accuracy 37 = .ok (.l2d, 1) := by decide +kernel
theorem dX11_accuracy_38 : decode cX11_accuracy 38 = .ok (.aload_n 0, 1) := by decide +kernel
theorem dX11_accuracy_39 : decode cX11_accuracy 39 = .ok (.getfield 253, 3) := by decide +kernel
theorem dX11_accuracy_42 : decode cX11_accuracy 42 = .ok (.l2d, 1) := by decide +kernel
theorem dX11_accuracy_43 : decode cX11_accuracy 43 = .ok (.ddiv, 1) := by decide +kernel
theorem dX11_accuracy_44 : decode cX11_accuracy 44 = .ok (.ddiv, 1) := by decide +kernel
theorem dX11_accuracy_45 : decode cX11_accuracy 45 = .ok (.dreturn, 1) := by decide +kernel
theorem dX11_goodShare_0 : decode cX11_goodShare 0 = .ok (.aload_n 0, 1) := by decide +kernel
theorem dX11_goodShare_1 : decode cX11_goodShare 1 = .ok (.iconst 0, 1) := by decide +kernel
theorem dX11_goodShare_2 : decode cX11_goodShare 2 = .ok (.putfield 50, 3) := by decide +kernel
theorem dX11_goodShare_5 : decode cX11_goodShare 5 = .ok (.aload_n 0, 1) := by decide +kernel
theorem dX11_goodShare_6 : decode cX11_goodShare 6 = .ok (.aload_n 0, 1) := by decide +kernel
theorem dX11_goodShare_7 : decode cX11_goodShare 7 = .ok (.iload_n 1, 1) := by decide +kernel
theorem dX11_goodShare_8 : decode cX11_goodShare 8 = .ok (.invokevirtual 327, 3) := by decide +kernel
theorem dX11_goodShare_11 : decode cX11_goodShare 11 = .ok (.ifCond .eq 15, 3) := by decide +kernel
theorem dX11_goodShare_14 : decode cX11_goodShare 14 = .ok (.iload_n 2, 1) := by decide +kernel
theorem dX11_goodShare_15 : decode cX11_goodShare 15 = .ok (.i2l, 1) := by decide +kernel
theorem dX11_goodShare_16 : decode cX11_goodShare 16 = .ok (.lconst 0, 1) := by decide +kernel
theorem dX11_goodShare_17 : decode cX11_goodShare 17 = .ok (.ldc2_w 353, 3) := by decide +kernel
theorem dX11_goodShare_20 : decode cX11_goodShare 20 = .ok (.invokestatic 71, 3) := by decide +kernel
theorem dX11_goodShare_23 : decode cX11_goodShare 23 = .ok (.ifCond .ne 7, 3) := by decide +kernel
theorem dX11_goodShare_26 : decode cX11_goodShare 26 = .ok (.iconst 1, 1) := by decide +kernel
theorem dX11_goodShare_27 : decode cX11_goodShare 27 = .ok (.goto 4, 3) := by decide +kernel
theorem dX11_goodShare_30 : decode cX11_goodShare 30 = .ok (.iconst 0, 1) := by decide +kernel
theorem dX11_goodShare_31 : decode cX11_goodShare 31 = .ok (.iconst 1, 1) := by decide +kernel
theorem dX11_goodShare_32 : decode cX11_goodShare 32 = .ok (.invokevirtual 309, 3) := by decide +kernel
theorem dX11_goodShare_35 : decode cX11_goodShare 35 = .ok (.ifCond .eq 5, 3) := by decide +kernel
theorem dX11_goodShare_38 : decode cX11_goodShare 38 = .ok (.fconst 0, 1) := by decide +kernel
theorem dX11_goodShare_39 : decode cX11_goodShare 39 = .ok (.freturn, 1) := by decide +kernel
theorem dX11_goodShare_40 : decode cX11_goodShare 40 = .ok (.iconst 0, 1) := by decide +kernel
theorem dX11_goodShare_41 : decode cX11_goodShare 41 = .ok (.istore_n 3, 1) := by decide +kernel
theorem dX11_goodShare_42 : decode cX11_goodShare 42 = .ok (.iconst 0, 1) := by decide +kernel
theorem dX11_goodShare_43 : decode cX11_goodShare 43 = .ok (.istore 4, 2) := by decide +kernel
theorem dX11_goodShare_45 : decode cX11_goodShare 45 = .ok (.iload 4, 2) := by decide +kernel
theorem dX11_goodShare_47 : decode cX11_goodShare 47 = .ok (.aload_n 0, 1) := by decide +kernel
theorem dX11_goodShare_48 : decode cX11_goodShare 48 = .ok (.getfield 7, 3) := by decide +kernel
theorem dX11_goodShare_51 : decode cX11_goodShare 51 = .ok (.iconst 0, 1) := by decide +kernel
theorem dX11_goodShare_52 : decode cX11_goodShare 52 = .ok (.iaload, 1) := by decide +kernel
theorem dX11_goodShare_53 : decode cX11_goodShare 53 = .ok (.if_icmp .ge 30, 3) := by decide +kernel
theorem dX11_goodShare_56 : decode cX11_goodShare 56 = .ok (.iload_n 3, 1) := by decide +kernel
theorem dX11_goodShare_57 : decode cX11_goodShare 57 = .ok (.aload_n 0, 1) := by decide +kernel
theorem dX11_goodShare_58 : decode cX11_goodShare 58 = .ok (.iload 4, 2) := by decide +kernel
theorem dX11_goodShare_60 : decode cX11_goodShare 60 = .ok (.iload_n 1, 1) := by decide +kernel
theorem dX11_goodShare_61 : decode cX11_goodShare 61 = .ok (.invokevirtual 344, 3) := by decide +kernel
theorem dX11_goodShare_64 : decode cX11_goodShare 64 = .ok (.iload_n 2, 1) := by decide +kernel
theorem dX11_goodShare_65 : decode cX11_goodShare 65 = .ok (.i2l, 1) := by decide +kernel
theorem dX11_goodShare_66 : decode cX11_goodShare 66 = .ok (.lcmp, 1) := by decide +kernel
theorem dX11_goodShare_67 : decode cX11_goodShare 67 = .ok (.ifCond .gt 7, 3) := by decide +kernel
theorem dX11_goodShare_70 : decode cX11_goodShare 70 = .ok (.iconst 1, 1) := by decide +kernel
theorem dX11_goodShare_71 : decode cX11_goodShare 71 = .ok (.goto 4, 3) := by decide +kernel
theorem dX11_goodShare_74 : decode cX11_goodShare 74 = .ok (.iconst 0, 1) := by decide +kernel
theorem dX11_goodShare_75 : decode cX11_goodShare 75 = .ok (.iadd, 1) := by decide +kernel
theorem dX11_goodShare_76 : decode cX11_goodShare 76 = .ok (.istore_n 3, 1) := by decide +kernel
theorem dX11_goodShare_77 : decode cX11_goodShare 77 = .ok (.iinc 4 1, 3) := by decide +kernel
theorem dX11_goodShare_80 : decode cX11_goodShare 80 = .ok (.goto (-35), 3) := by decide +kernel
theorem dX11_goodShare_83 : decode cX11_goodShare 83 = .ok (.aload_n 0, 1) := by decide +kernel
theorem dX11_goodShare_84 : decode cX11_goodShare 84 = .ok (.getfield 7, 3) := by decide +kernel
theorem dX11_goodShare_87 : decode cX11_goodShare 87 = .ok (.iconst 0, 1) := by decide +kernel
theorem dX11_goodShare_88 : decode cX11_goodShare 88 = .ok (.iaload, 1) := by decide +kernel
theorem dX11_goodShare_89 : decode cX11_goodShare 89 = .ok (.ifCond .ne 7, 3) := by decide +kernel
theorem dX11_goodShare_92 : decode cX11_goodShare 92 = .ok (.fconst 1, 1) := by decide +kernel
theorem dX11_goodShare_93 : decode cX11_goodShare 93 = .ok (.goto 13, 3) := by decide +kernel
theorem dX11_goodShare_96 : decode cX11_goodShare 96 = .ok (.iload_n 3, 1) := by decide +kernel
theorem dX11_goodShare_97 : decode cX11_goodShare 97 = .ok (.i2f, 1) := by decide +kernel
theorem dX11_goodShare_98 : decode cX11_goodShare 98 = .ok (.aload_n 0, 1) := by decide +kernel
theorem dX11_goodShare_99 : decode cX11_goodShare 99 = .ok (.getfield 7, 3) := by decide +kernel
theorem dX11_goodShare_102 : decode cX11_goodShare 102 = .ok (.iconst 0, 1) := by decide +kernel
theorem dX11_goodShare_103 : decode cX11_goodShare 103 = .ok (.iaload, 1) := by decide +kernel
theorem dX11_goodShare_104 : decode cX11_goodShare 104 = .ok (.i2f, 1) := by decide +kernel
theorem dX11_goodShare_105 : decode cX11_goodShare 105 = .ok (.fdiv, 1) := by decide +kernel
theorem dX11_goodShare_106 : decode cX11_goodShare 106 = .ok (.freturn, 1) := by decide +kernel
theorem dX11_write_0 : decode cX11_write 0 = .ok (.aload_n 0, 1) := by decide +kernel
theorem dX11_write_1 : decode cX11_write 1 = .ok (.getfield 44, 3) := by decide +kernel
theorem dX11_write_4 : decode cX11_write 4 = .ok (.aload_n 0, 1) := by decide +kernel
theorem dX11_write_5 : decode cX11_write 5 = .ok (.getfield 438, 3) := by decide +kernel
theorem dX11_write_8 : decode cX11_write 8 = .ok (.iload_n 1, 1) := by decide +kernel
theorem dX11_write_9 : decode cX11_write 9 = .ok (.iastore, 1) := by decide +kernel
theorem dX11_write_10 : decode cX11_write 10 = .ok (.aload_n 0, 1) := by decide +kernel
theorem dX11_write_11 : decode cX11_write 11 = .ok (.dup, 1) := by decide +kernel
theorem dX11_write_12 : decode cX11_write 12 = .ok (.getfield 438, 3) := by decide +kernel
theorem dX11_write_15 : decode cX11_write 15 = .ok (.iconst 1, 1) := by decide +kernel
theorem dX11_write_16 : decode cX11_write 16 = .ok (.iadd, 1) := by decide +kernel
theorem dX11_write_17 : decode cX11_write 17 = .ok (.putfield 438, 3) := by decide +kernel
theorem dX11_write_20 : decode cX11_write 20 = .ok (.return_, 1) := by decide +kernel
theorem dX11_writeNumber_0 : decode cX11_writeNumber 0 = .ok (.lload_n 1, 1) := by decide +kernel
theorem dX11_writeNumber_1 : decode cX11_writeNumber 1 = .ok (.lconst 0, 1) := by decide +kernel
theorem dX11_writeNumber_2 : decode cX11_writeNumber 2 = .ok (.lcmp, 1) := by decide +kernel
theorem dX11_writeNumber_3 : decode cX11_writeNumber 3 = .ok (.ifCond .ge 9, 3) := by decide +kernel
theorem dX11_writeNumber_6 : decode cX11_writeNumber 6 = .ok (.aload_n 0, 1) := by decide +kernel
theorem dX11_writeNumber_7 : decode cX11_writeNumber 7 = .ok (.bipush 45, 2) := by decide +kernel
theorem dX11_writeNumber_9 : decode cX11_writeNumber 9 = .ok (.invokevirtual 441, 3) := by decide +kernel
theorem dX11_writeNumber_12 : decode cX11_writeNumber 12 = .ok (.lload_n 1, 1) := by decide +kernel
theorem dX11_writeNumber_13 : decode cX11_writeNumber 13 = .ok (.invokestatic 239, 3) := by decide +kernel
theorem dX11_writeNumber_16 : decode cX11_writeNumber 16 = .ok (.lstore_n 3, 1) := by decide +kernel
theorem dX11_writeNumber_17 : decode cX11_writeNumber 17 = .ok (.lconst 1, 1) := by decide +kernel
theorem dX11_writeNumber_18 : decode cX11_writeNumber 18 = .ok (.lstore 5, 2) := by decide +kernel
theorem dX11_writeNumber_20 : decode cX11_writeNumber 20 = .ok (.lload_n 3, 1) := by decide +kernel
theorem dX11_writeNumber_21 : decode cX11_writeNumber 21 = .ok (.lload 5, 2) := by decide +kernel
theorem dX11_writeNumber_23 : decode cX11_writeNumber 23 = .ok (.ldiv, 1) := by decide +kernel
theorem dX11_writeNumber_24 : decode cX11_writeNumber 24 = .ok (.ldc2_w 444, 3) := by decide +kernel
theorem dX11_writeNumber_27 : decode cX11_writeNumber 27 = .ok (.lcmp, 1) := by decide +kernel
theorem dX11_writeNumber_28 : decode cX11_writeNumber 28 = .ok (.ifCond .le 14, 3) := by decide +kernel
theorem dX11_writeNumber_31 : decode cX11_writeNumber 31 = .ok (.lload 5, 2) := by decide +kernel
theorem dX11_writeNumber_33 : decode cX11_writeNumber 33 = .ok (.ldc2_w 446, 3) := by decide +kernel
theorem dX11_writeNumber_36 : decode cX11_writeNumber 36 = .ok (.lmul, 1) := by decide +kernel
theorem dX11_writeNumber_37 : decode cX11_writeNumber 37 = .ok (.lstore 5, 2) := by decide +kernel
theorem dX11_writeNumber_39 : decode cX11_writeNumber 39 = .ok (.goto (-19), 3) := by decide +kernel
theorem dX11_writeNumber_42 : decode cX11_writeNumber 42 = .ok (.lload 5, 2) := by decide +kernel
theorem dX11_writeNumber_44 : decode cX11_writeNumber 44 = .ok (.lconst 0, 1) := by decide +kernel
theorem dX11_writeNumber_45 : decode cX11_writeNumber 45 = .ok (.lcmp, 1) := by decide +kernel
theorem dX11_writeNumber_46 : decode cX11_writeNumber 46 = .ok (.ifCond .le 31, 3) := by decide +kernel
theorem dX11_writeNumber_49 : decode cX11_writeNumber 49 = .ok (.aload_n 0, 1) := by decide +kernel
theorem dX11_writeNumber_50 : decode cX11_writeNumber 50 = .ok (.ldc2_w 95, 3) := by decide +kernel
theorem dX11_writeNumber_53 : decode cX11_writeNumber 53 = .ok (.lload_n 3, 1) := by decide +kernel
theorem dX11_writeNumber_54 : decode cX11_writeNumber 54 = .ok (.lload 5, 2) := by decide +kernel
theorem dX11_writeNumber_56 : decode cX11_writeNumber 56 = .ok (.ldiv, 1) := by decide +kernel
theorem dX11_writeNumber_57 : decode cX11_writeNumber 57 = .ok (.ldc2_w 446, 3) := by decide +kernel
theorem dX11_writeNumber_60 : decode cX11_writeNumber 60 = .ok (.lrem, 1) := by decide +kernel
theorem dX11_writeNumber_61 : decode cX11_writeNumber 61 = .ok (.ladd, 1) := by decide +kernel
theorem dX11_writeNumber_62 : decode cX11_writeNumber 62 = .ok (.l2i, 1) := by decide +kernel
theorem dX11_writeNumber_63 : decode cX11_writeNumber 63 = .ok (.invokevirtual 441, 3) := by decide +kernel
theorem dX11_writeNumber_66 : decode cX11_writeNumber 66 = .ok (.lload 5, 2) := by decide +kernel
theorem dX11_writeNumber_68 : decode cX11_writeNumber 68 = .ok (.ldc2_w 446, 3) := by decide +kernel
theorem dX11_writeNumber_71 : decode cX11_writeNumber 71 = .ok (.ldiv, 1) := by decide +kernel
theorem dX11_writeNumber_72 : decode cX11_writeNumber 72 = .ok (.lstore 5, 2) := by decide +kernel
theorem dX11_writeNumber_74 : decode cX11_writeNumber 74 = .ok (.goto (-32), 3) := by decide +kernel
theorem dX11_writeNumber_77 : decode cX11_writeNumber 77 = .ok (.return_, 1) := by decide +kernel
theorem dX11_printErrors_0 : decode cX11_printErrors 0 = .ok (.aload_n 0, 1) := by decide +kernel
theorem dX11_printErrors_1 : decode cX11_printErrors 1 = .ok (.iload_n 1, 1) := by decide +kernel
theorem dX11_printErrors_2 : decode cX11_printErrors 2 = .ok (.invokevirtual 319, 3) := by decide +kernel
theorem dX11_printErrors_5 : decode cX11_printErrors 5 = .ok (.ifCond .ne 50, 3) := by decide +kernel
theorem dX11_printErrors_8 : decode cX11_printErrors 8 = .ok (.aload_n 0, 1) := by decide +kernel
theorem dX11_printErrors_9 : decode cX11_printErrors 9 = .ok (.aload_n 0, 1) := by decide +kernel
theorem dX11_printErrors_10 : decode cX11_printErrors 10 = .ok (.iload_n 2, 1) := by decide +kernel
theorem dX11_printErrors_11 : decode cX11_printErrors 11 = .ok (.invokevirtual 327, 3) := by decide +kernel
theorem dX11_printErrors_14 : decode cX11_printErrors 14 = .ok (.ifCond .eq 29, 3) := by decide +kernel
theorem dX11_printErrors_17 : decode cX11_printErrors 17 = .ok (.aload_n 0, 1) := by decide +kernel
theorem dX11_printErrors_18 : decode cX11_printErrors 18 = .ok (.iload_n 3, 1) := by decide +kernel
theorem dX11_printErrors_19 : decode cX11_printErrors 19 = .ok (.invokevirtual 327, 3) := by decide +kernel
theorem dX11_printErrors_22 : decode cX11_printErrors 22 = .ok (.ifCond .eq 21, 3) := by decide +kernel
theorem dX11_printErrors_25 : decode cX11_printErrors 25 = .ok (.iload 4, 2) := by decide +kernel
theorem dX11_printErrors_27 : decode cX11_printErrors 27 = .ok (.i2l, 1) := by decide +kernel
theorem dX11_printErrors_28 : decode cX11_printErrors 28 = .ok (.lconst 1, 1) := by decide +kernel
theorem dX11_printErrors_29 : decode cX11_printErrors 29 = .ok (.ldc2_w 403, 3) := by decide +kernel
theorem dX11_printErrors_32 : decode cX11_printErrors 32 = .ok (.invokestatic 71, 3) := by decide +kernel
theorem dX11_printErrors_35 : decode cX11_printErrors 35 = .ok (.ifCond .eq 8, 3) := by decide +kernel
theorem dX11_printErrors_38 : decode cX11_printErrors 38 = .ok (.iload_n 3, 1) := by decide +kernel
theorem dX11_printErrors_39 : decode cX11_printErrors 39 = .ok (.iload_n 2, 1) := by decide +kernel
theorem dX11_printErrors_40 : decode cX11_printErrors 40 = .ok (.if_icmp .ge 7, 3) := by decide +kernel
theorem dX11_printErrors_43 : decode cX11_printErrors 43 = .ok (.iconst 1, 1) := by decide +kernel
theorem dX11_printErrors_44 : decode cX11_printErrors 44 = .ok (.goto 4, 3) := by decide +kernel
theorem dX11_printErrors_47 : decode cX11_printErrors 47 = .ok (.iconst 0, 1) := by decide +kernel
theorem dX11_printErrors_48 : decode cX11_printErrors 48 = .ok (.iconst 2, 1) := by decide +kernel
theorem dX11_printErrors_49 : decode cX11_printErrors 49 = .ok (.invokevirtual 309, 3) := by decide +kernel
theorem dX11_printErrors_52 : decode cX11_printErrors 52 = .ok (.ifCond .eq 5, 3) := by decide +kernel
theorem dX11_printErrors_55 : decode cX11_printErrors 55 = .ok (.iconst 0, 1) := by decide +kernel
theorem dX11_printErrors_56 : decode cX11_printErrors 56 = .ok (.ireturn, 1) := by decide +kernel
theorem dX11_printErrors_57 : decode cX11_printErrors 57 = .ok (.aload_n 0, 1) := by decide +kernel
theorem dX11_printErrors_58 : decode cX11_printErrors 58 = .ok (.iconst 0, 1) := by decide +kernel
theorem dX11_printErrors_59 : decode cX11_printErrors 59 = .ok (.putfield 438, 3) := by decide +kernel
theorem dX11_printErrors_62 : decode cX11_printErrors 62 = .ok (.iload_n 2, 1) := by decide +kernel
theorem dX11_printErrors_63 : decode cX11_printErrors 63 = .ok (.istore 5, 2) := by decide +kernel
theorem dX11_printErrors_65 : decode cX11_printErrors 65 = .ok (.iconst 0, 1) := by decide +kernel
theorem dX11_printErrors_66 : decode cX11_printErrors 66 = .ok (.istore 6, 2) := by decide +kernel
theorem dX11_printErrors_68 : decode cX11_printErrors 68 = .ok (.iload 6, 2) := by decide +kernel
theorem dX11_printErrors_70 : decode cX11_printErrors 70 = .ok (.bipush 40, 2) := by decide +kernel
theorem dX11_printErrors_72 : decode cX11_printErrors 72 = .ok (.if_icmp .ge 52, 3) := by decide +kernel
theorem dX11_printErrors_75 : decode cX11_printErrors 75 = .ok (.iload 5, 2) := by decide +kernel
theorem dX11_printErrors_77 : decode cX11_printErrors 77 = .ok (.iload_n 3, 1) := by decide +kernel
theorem dX11_printErrors_78 : decode cX11_printErrors 78 = .ok (.if_icmp .gt 46, 3) := by decide +kernel
theorem dX11_printErrors_81 : decode cX11_printErrors 81 = .ok (.aload_n 0, 1) := by decide +kernel
theorem dX11_printErrors_82 : decode cX11_printErrors 82 = .ok (.iload 5, 2) := by decide +kernel
theorem dX11_printErrors_84 : decode cX11_printErrors 84 = .ok (.i2l, 1) := by decide +kernel
theorem dX11_printErrors_85 : decode cX11_printErrors 85 = .ok (.invokevirtual 448, 3) := by decide +kernel
theorem dX11_printErrors_88 : decode cX11_printErrors 88 = .ok (.aload_n 0, 1) := by decide +kernel
theorem dX11_printErrors_89 : decode cX11_printErrors 89 = .ok (.bipush 58, 2) := by decide +kernel
theorem dX11_printErrors_91 : decode cX11_printErrors 91 = .ok (.invokevirtual 441, 3) := by decide +kernel
theorem dX11_printErrors_94 : decode cX11_printErrors 94 = .ok (.aload_n 0, 1) := by decide +kernel
theorem dX11_printErrors_95 : decode cX11_printErrors 95 = .ok (.aload_n 0, 1) := by decide +kernel
theorem dX11_printErrors_96 : decode cX11_printErrors 96 = .ok (.iload_n 1, 1) := by decide +kernel
theorem dX11_printErrors_97 : decode cX11_printErrors 97 = .ok (.iload 5, 2) := by decide +kernel
theorem dX11_printErrors_99 : decode cX11_printErrors 99 = .ok (.invokevirtual 306, 3) := by decide +kernel
theorem dX11_printErrors_102 : decode cX11_printErrors 102 = .ok (.invokevirtual 448, 3) := by decide +kernel
theorem dX11_printErrors_105 : decode cX11_printErrors 105 = .ok (.aload_n 0, 1) := by decide +kernel
theorem dX11_printErrors_106 : decode cX11_printErrors 106 = .ok (.bipush 59, 2) := by decide +kernel
theorem dX11_printErrors_108 : decode cX11_printErrors 108 = .ok (.invokevirtual 441, 3) := by decide +kernel
theorem dX11_printErrors_111 : decode cX11_printErrors 111 = .ok (.iload 5, 2) := by decide +kernel
theorem dX11_printErrors_113 : decode cX11_printErrors 113 = .ok (.iload 4, 2) := by decide +kernel
theorem dX11_printErrors_115 : decode cX11_printErrors 115 = .ok (.iadd, 1) := by decide +kernel
theorem dX11_printErrors_116 : decode cX11_printErrors 116 = .ok (.istore 5, 2) := by decide +kernel
theorem dX11_printErrors_118 : decode cX11_printErrors 118 = .ok (.iinc 6 1, 3) := by decide +kernel
theorem dX11_printErrors_121 : decode cX11_printErrors 121 = .ok (.goto (-53), 3) := by decide +kernel
theorem dX11_printErrors_124 : decode cX11_printErrors 124 = .ok (.aload_n 0, 1) := by decide +kernel
theorem dX11_printErrors_125 : decode cX11_printErrors 125 = .ok (.getfield 438, 3) := by decide +kernel
theorem dX11_printErrors_128 : decode cX11_printErrors 128 = .ok (.ireturn, 1) := by decide +kernel
theorem dX11_report_0 : decode cX11_report 0 = .ok (.aload_n 0, 1) := by decide +kernel
theorem dX11_report_1 : decode cX11_report 1 = .ok (.iconst 0, 1) := by decide +kernel
theorem dX11_report_2 : decode cX11_report 2 = .ok (.putfield 50, 3) := by decide +kernel
theorem dX11_report_5 : decode cX11_report 5 = .ok (.aload_n 0, 1) := by decide +kernel
theorem dX11_report_6 : decode cX11_report 6 = .ok (.iload_n 1, 1) := by decide +kernel
theorem dX11_report_7 : decode cX11_report 7 = .ok (.iconst 1, 1) := by decide +kernel
theorem dX11_report_8 : decode cX11_report 8 = .ok (.invokevirtual 330, 3) := by decide +kernel
theorem dX11_report_11 : decode cX11_report 11 = .ok (.ifCond .eq 5, 3) := by decide +kernel
theorem dX11_report_14 : decode cX11_report 14 = .ok (.iconst 0, 1) := by decide +kernel
theorem dX11_report_15 : decode cX11_report 15 = .ok (.ireturn, 1) := by decide +kernel
theorem dX11_report_16 : decode cX11_report 16 = .ok (.aload_n 0, 1) := by decide +kernel
theorem dX11_report_17 : decode cX11_report 17 = .ok (.iconst 0, 1) := by decide +kernel
theorem dX11_report_18 : decode cX11_report 18 = .ok (.putfield 438, 3) := by decide +kernel
theorem dX11_report_21 : decode cX11_report 21 = .ok (.iconst 0, 1) := by decide +kernel
theorem dX11_report_22 : decode cX11_report 22 = .ok (.istore_n 2, 1) := by decide +kernel
theorem dX11_report_23 : decode cX11_report 23 = .ok (.iload_n 2, 1) := by decide +kernel
theorem dX11_report_24 : decode cX11_report 24 = .ok (.aload_n 0, 1) := by decide +kernel
theorem dX11_report_25 : decode cX11_report 25 = .ok (.getfield 7, 3) := by decide +kernel
theorem dX11_report_28 : decode cX11_report 28 = .ok (.iconst 0, 1) := by decide +kernel
theorem dX11_report_29 : decode cX11_report 29 = .ok (.iaload, 1) := by decide +kernel
theorem dX11_report_30 : decode cX11_report 30 = .ok (.if_icmp .ge 74, 3) := by decide +kernel
theorem dX11_report_33 : decode cX11_report 33 = .ok (.iconst 0, 1) := by decide +kernel
theorem dX11_report_34 : decode cX11_report 34 = .ok (.istore_n 3, 1) := by decide +kernel
theorem dX11_report_35 : decode cX11_report 35 = .ok (.iload_n 3, 1) := by decide +kernel
theorem dX11_report_36 : decode cX11_report 36 = .ok (.bipush 8, 2) := by decide +kernel
theorem dX11_report_38 : decode cX11_report 38 = .ok (.if_icmp .ge 38, 3) := by decide +kernel
theorem dX11_report_41 : decode cX11_report 41 = .ok (.aload_n 0, 1) := by decide +kernel
theorem dX11_report_42 : decode cX11_report 42 = .ok (.getfield 16, 3) := by decide +kernel
theorem dX11_report_45 : decode cX11_report 45 = .ok (.bipush 8, 2) := by decide +kernel
theorem dX11_report_47 : decode cX11_report 47 = .ok (.iload_n 2, 1) := by decide +kernel
theorem dX11_report_48 : decode cX11_report 48 = .ok (.imul, 1) := by decide +kernel
theorem dX11_report_49 : decode cX11_report 49 = .ok (.iload_n 3, 1) := by decide +kernel
theorem dX11_report_50 : decode cX11_report 50 = .ok (.iadd, 1) := by decide +kernel
theorem dX11_report_51 : decode cX11_report 51 = .ok (.iaload, 1) := by decide +kernel
theorem dX11_report_52 : decode cX11_report 52 = .ok (.ifCond .eq 24, 3) := by decide +kernel
theorem dX11_report_55 : decode cX11_report 55 = .ok (.aload_n 0, 1) := by decide +kernel
theorem dX11_report_56 : decode cX11_report 56 = .ok (.aload_n 0, 1) := by decide +kernel
theorem dX11_report_57 : decode cX11_report 57 = .ok (.getfield 16, 3) := by decide +kernel
theorem dX11_report_60 : decode cX11_report 60 = .ok (.bipush 8, 2) := by decide +kernel
theorem dX11_report_62 : decode cX11_report 62 = .ok (.iload_n 2, 1) := by decide +kernel
theorem dX11_report_63 : decode cX11_report 63 = .ok (.imul, 1) := by decide +kernel
theorem dX11_report_64 : decode cX11_report 64 = .ok (.iload_n 3, 1) := by decide +kernel
theorem dX11_report_65 : decode cX11_report 65 = .ok (.iadd, 1) := by decide +kernel
theorem dX11_report_66 : decode cX11_report 66 = .ok (.iaload, 1) := by decide +kernel
theorem dX11_report_67 : decode cX11_report 67 = .ok (.invokevirtual 441, 3) := by decide +kernel
theorem dX11_report_70 : decode cX11_report 70 = .ok (.iinc 3 1, 3) := by decide +kernel
theorem dX11_report_73 : decode cX11_report 73 = .ok (.goto (-38), 3) := by decide +kernel
theorem dX11_report_76 : decode cX11_report 76 = .ok (.aload_n 0, 1) := by decide +kernel
theorem dX11_report_77 : decode cX11_report 77 = .ok (.bipush 58, 2) := by decide +kernel
theorem dX11_report_79 : decode cX11_report 79 = .ok (.invokevirtual 441, 3) := by decide +kernel
theorem dX11_report_82 : decode cX11_report 82 = .ok (.aload_n 0, 1) := by decide +kernel
theorem dX11_report_83 : decode cX11_report 83 = .ok (.aload_n 0, 1) := by decide +kernel
theorem dX11_report_84 : decode cX11_report 84 = .ok (.iload_n 2, 1) := by decide +kernel
theorem dX11_report_85 : decode cX11_report 85 = .ok (.iload_n 1, 1) := by decide +kernel
theorem dX11_report_86 : decode cX11_report 86 = .ok (.invokevirtual 306, 3) := by decide +kernel
theorem dX11_report_89 : decode cX11_report 89 = .ok (.invokevirtual 448, 3) := by decide +kernel
theorem dX11_report_92 : decode cX11_report 92 = .ok (.aload_n 0, 1) := by decide +kernel
theorem dX11_report_93 : decode cX11_report 93 = .ok (.bipush 10, 2) := by decide +kernel
theorem dX11_report_95 : decode cX11_report 95 = .ok (.invokevirtual 441, 3) := by decide +kernel
theorem dX11_report_98 : decode cX11_report 98 = .ok (.iinc 2 1, 3) := by decide +kernel
theorem dX11_report_101 : decode cX11_report 101 = .ok (.goto (-78), 3) := by decide +kernel
theorem dX11_report_104 : decode cX11_report 104 = .ok (.aload_n 0, 1) := by decide +kernel
theorem dX11_report_105 : decode cX11_report 105 = .ok (.getfield 438, 3) := by decide +kernel
theorem dX11_report_108 : decode cX11_report 108 = .ok (.ireturn, 1) := by decide +kernel
theorem dX11_printTrain_0 : decode cX11_printTrain 0 = .ok (.aload_n 0, 1) := by decide +kernel
theorem dX11_printTrain_1 : decode cX11_printTrain 1 = .ok (.iload_n 1, 1) := by decide +kernel
theorem dX11_printTrain_2 : decode cX11_printTrain 2 = .ok (.invokevirtual 319, 3) := by decide +kernel
theorem dX11_printTrain_5 : decode cX11_printTrain 5 = .ok (.ifCond .eq 5, 3) := by decide +kernel
theorem dX11_printTrain_8 : decode cX11_printTrain 8 = .ok (.iconst 0, 1) := by decide +kernel
theorem dX11_printTrain_9 : decode cX11_printTrain 9 = .ok (.ireturn, 1) := by decide +kernel
theorem dX11_printTrain_10 : decode cX11_printTrain 10 = .ok (.aload_n 0, 1) := by decide +kernel
theorem dX11_printTrain_11 : decode cX11_printTrain 11 = .ok (.iconst 0, 1) := by decide +kernel
theorem dX11_printTrain_12 : decode cX11_printTrain 12 = .ok (.putfield 438, 3) := by decide +kernel
theorem dX11_printTrain_15 : decode cX11_printTrain 15 = .ok (.iconst 0, 1) := by decide +kernel
theorem dX11_printTrain_16 : decode cX11_printTrain 16 = .ok (.istore_n 2, 1) := by decide +kernel
theorem dX11_printTrain_17 : decode cX11_printTrain 17 = .ok (.iload_n 2, 1) := by decide +kernel
theorem dX11_printTrain_18 : decode cX11_printTrain 18 = .ok (.aload_n 0, 1) := by decide +kernel
theorem dX11_printTrain_19 : decode cX11_printTrain 19 = .ok (.iload_n 1, 1) := by decide +kernel
theorem dX11_printTrain_20 : decode cX11_printTrain 20 = .ok (.invokevirtual 188, 3) := by decide +kernel
theorem dX11_printTrain_23 : decode cX11_printTrain 23 = .ok (.if_icmp .ge 81, 3) := by decide +kernel
theorem dX11_printTrain_26 : decode cX11_printTrain 26 = .ok (.iload_n 2, 1) := by decide +kernel
theorem dX11_printTrain_27 : decode cX11_printTrain 27 = .ok (.ifCond .le 9, 3) := by decide +kernel
theorem dX11_printTrain_30 : decode cX11_printTrain 30 = .ok (.aload_n 0, 1) := by decide +kernel
theorem dX11_printTrain_31 : decode cX11_printTrain 31 = .ok (.bipush 42, 2) := by decide +kernel
theorem dX11_printTrain_33 : decode cX11_printTrain 33 = .ok (.invokevirtual 441, 3) := by decide +kernel
theorem dX11_printTrain_36 : decode cX11_printTrain 36 = .ok (.aload_n 0, 1) := by decide +kernel
theorem dX11_printTrain_37 : decode cX11_printTrain 37 = .ok (.iload_n 1, 1) := by decide +kernel
theorem dX11_printTrain_38 : decode cX11_printTrain 38 = .ok (.iload_n 2, 1) := by decide +kernel
theorem dX11_printTrain_39 : decode cX11_printTrain 39 = .ok (.iconst 0, 1) := by decide +kernel
theorem dX11_printTrain_40 : decode cX11_printTrain 40 = .ok (.invokevirtual 191, 3) := by decide +kernel
theorem dX11_printTrain_43 : decode cX11_printTrain 43 = .ok (.istore_n 3, 1) := by decide +kernel
theorem dX11_printTrain_44 : decode cX11_printTrain 44 = .ok (.aload_n 0, 1) := by decide +kernel
theorem dX11_printTrain_45 : decode cX11_printTrain 45 = .ok (.aload_n 0, 1) := by decide +kernel
theorem dX11_printTrain_46 : decode cX11_printTrain 46 = .ok (.iload_n 1, 1) := by decide +kernel
theorem dX11_printTrain_47 : decode cX11_printTrain 47 = .ok (.iload_n 2, 1) := by decide +kernel
theorem dX11_printTrain_48 : decode cX11_printTrain 48 = .ok (.iconst 1, 1) := by decide +kernel
theorem dX11_printTrain_49 : decode cX11_printTrain 49 = .ok (.invokevirtual 191, 3) := by decide +kernel
theorem dX11_printTrain_52 : decode cX11_printTrain 52 = .ok (.i2l, 1) := by decide +kernel
theorem dX11_printTrain_53 : decode cX11_printTrain 53 = .ok (.invokevirtual 448, 3) := by decide +kernel
theorem dX11_printTrain_56 : decode cX11_printTrain 56 = .ok (.aload_n 0, 1) := by decide +kernel
theorem dX11_printTrain_57 : decode cX11_printTrain 57 = .ok (.iload_n 3, 1) := by decide +kernel
theorem dX11_printTrain_58 : decode cX11_printTrain 58 = .ok (.ifCond .ne 8, 3) := by decide +kernel
theorem dX11_printTrain_61 : decode cX11_printTrain 61 = .ok (.bipush 47, 2) := by decide +kernel
theorem dX11_printTrain_63 : decode cX11_printTrain 63 = .ok (.goto 15, 3) := by decide +kernel
theorem dX11_printTrain_66 : decode cX11_printTrain 66 = .ok (.iload_n 3, 1) := by decide +kernel
theorem dX11_printTrain_67 : decode cX11_printTrain 67 = .ok (.iconst 1, 1) := by decide +kernel
theorem dX11_printTrain_68 : decode cX11_printTrain 68 = .ok (.if_icmp .ne 8, 3) := by decide +kernel
theorem dX11_printTrain_71 : decode cX11_printTrain 71 = .ok (.bipush 111, 2) := by decide +kernel
theorem dX11_printTrain_73 : decode cX11_printTrain 73 = .ok (.goto 5, 3) := by decide +kernel
theorem dX11_printTrain_76 : decode cX11_printTrain 76 = .ok (.bipush 105, 2) := by decide +kernel
theorem dX11_printTrain_78 : decode cX11_printTrain 78 = .ok (.invokevirtual 441, 3) := by decide +kernel
theorem dX11_printTrain_81 : decode cX11_printTrain 81 = .ok (.iload_n 3, 1) := by decide +kernel
theorem dX11_printTrain_82 : decode cX11_printTrain 82 = .ok (.iconst 2, 1) := by decide +kernel
theorem dX11_printTrain_83 : decode cX11_printTrain 83 = .ok (.if_icmp .eq 15, 3) := by decide +kernel
theorem dX11_printTrain_86 : decode cX11_printTrain 86 = .ok (.aload_n 0, 1) := by decide +kernel
theorem dX11_printTrain_87 : decode cX11_printTrain 87 = .ok (.aload_n 0, 1) := by decide +kernel
theorem dX11_printTrain_88 : decode cX11_printTrain 88 = .ok (.iload_n 1, 1) := by decide +kernel
theorem dX11_printTrain_89 : decode cX11_printTrain 89 = .ok (.iload_n 2, 1) := by decide +kernel
theorem dX11_printTrain_90 : decode cX11_printTrain 90 = .ok (.iconst 2, 1) := by decide +kernel
theorem dX11_printTrain_91 : decode cX11_printTrain 91 = .ok (.invokevirtual 191, 3) := by decide +kernel
theorem dX11_printTrain_94 : decode cX11_printTrain 94 = .ok (.i2l, 1) := by decide +kernel
theorem dX11_printTrain_95 : decode cX11_printTrain 95 = .ok (.invokevirtual 448, 3) := by decide +kernel
theorem dX11_printTrain_98 : decode cX11_printTrain 98 = .ok (.iinc 2 1, 3) := by decide +kernel
theorem dX11_printTrain_101 : decode cX11_printTrain 101 = .ok (.goto (-84), 3) := by decide +kernel
theorem dX11_printTrain_104 : decode cX11_printTrain 104 = .ok (.aload_n 0, 1) := by decide +kernel
theorem dX11_printTrain_105 : decode cX11_printTrain 105 = .ok (.iload_n 1, 1) := by decide +kernel
theorem dX11_printTrain_106 : decode cX11_printTrain 106 = .ok (.invokevirtual 278, 3) := by decide +kernel
theorem dX11_printTrain_109 : decode cX11_printTrain 109 = .ok (.aload_n 0, 1) := by decide +kernel
theorem dX11_printTrain_110 : decode cX11_printTrain 110 = .ok (.bipush 61, 2) := by decide +kernel
theorem dX11_printTrain_112 : decode cX11_printTrain 112 = .ok (.invokevirtual 441, 3) := by decide +kernel
theorem dX11_printTrain_115 : decode cX11_printTrain 115 = .ok (.aload_n 0, 1) := by decide +kernel
theorem dX11_printTrain_116 : decode cX11_printTrain 116 = .ok (.aload_n 0, 1) := by decide +kernel
theorem dX11_printTrain_117 : decode cX11_printTrain 117 = .ok (.getfield 249, 3) := by decide +kernel
theorem dX11_printTrain_120 : decode cX11_printTrain 120 = .ok (.invokevirtual 448, 3) := by decide +kernel
theorem dX11_printTrain_123 : decode cX11_printTrain 123 = .ok (.aload_n 0, 1) := by decide +kernel
theorem dX11_printTrain_124 : decode cX11_printTrain 124 = .ok (.bipush 58, 2) := by decide +kernel
theorem dX11_printTrain_126 : decode cX11_printTrain 126 = .ok (.invokevirtual 441, 3) := by decide +kernel
theorem dX11_printTrain_129 : decode cX11_printTrain 129 = .ok (.aload_n 0, 1) := by decide +kernel
theorem dX11_printTrain_130 : decode cX11_printTrain 130 = .ok (.aload_n 0, 1) := by decide +kernel
theorem dX11_printTrain_131 : decode cX11_printTrain 131 = .ok (.getfield 253, 3) := by decide +kernel
theorem dX11_printTrain_134 : decode cX11_printTrain 134 = .ok (.invokevirtual 448, 3) := by decide +kernel
theorem dX11_printTrain_137 : decode cX11_printTrain 137 = .ok (.aload_n 0, 1) := by decide +kernel
theorem dX11_printTrain_138 : decode cX11_printTrain 138 = .ok (.getfield 438, 3) := by decide +kernel
theorem dX11_printTrain_141 : decode cX11_printTrain 141 = .ok (.ireturn, 1) := by decide +kernel
theorem dX11_outputByte_0 : decode cX11_outputByte 0 = .ok (.aload_n 0, 1) := by decide +kernel
theorem dX11_outputByte_1 : decode cX11_outputByte 1 = .ok (.iconst 0, 1) := by decide +kernel
theorem dX11_outputByte_2 : decode cX11_outputByte 2 = .ok (.putfield 50, 3) := by decide +kernel
theorem dX11_outputByte_5 : decode cX11_outputByte 5 = .ok (.iload_n 1, 1) := by decide +kernel
theorem dX11_outputByte_6 : decode cX11_outputByte 6 = .ok (.i2l, 1) := by decide +kernel
theorem dX11_outputByte_7 : decode cX11_outputByte 7 = .ok (.lconst 0, 1) := by decide +kernel
theorem dX11_outputByte_8 : decode cX11_outputByte 8 = .ok (.aload_n 0, 1) := by decide +kernel
theorem dX11_outputByte_9 : decode cX11_outputByte 9 = .ok (.getfield 438, 3) := by decide +kernel
theorem dX11_outputByte_12 : decode cX11_outputByte 12 = .ok (.iconst 1, 1) := by decide +kernel
theorem dX11_outputByte_13 : decode cX11_outputByte 13 = .ok (.isub, 1) := by decide +kernel
theorem dX11_outputByte_14 : decode cX11_outputByte 14 = .ok (.i2l, 1) := by decide +kernel
theorem dX11_outputByte_15 : decode cX11_outputByte 15 = .ok (.invokestatic 71, 3) := by decide +kernel
theorem dX11_outputByte_18 : decode cX11_outputByte 18 = .ok (.ifCond .eq 12, 3) := by decide +kernel
theorem dX11_outputByte_21 : decode cX11_outputByte 21 = .ok (.aload_n 0, 1) := by decide +kernel
theorem dX11_outputByte_22 : decode cX11_outputByte 22 = .ok (.getfield 44, 3) := by decide +kernel
theorem dX11_outputByte_25 : decode cX11_outputByte 25 = .ok (.iload_n 1, 1) := by decide +kernel
theorem dX11_outputByte_26 : decode cX11_outputByte 26 = .ok (.iaload, 1) := by decide +kernel
theorem dX11_outputByte_27 : decode cX11_outputByte 27 = .ok (.goto 4, 3) := by decide +kernel
theorem dX11_outputByte_30 : decode cX11_outputByte 30 = .ok (.iconst (-1), 1) := by decide +kernel
theorem dX11_outputByte_31 : decode cX11_outputByte 31 = .ok (.ireturn, 1) := by decide +kernel
theorem dJ13_compare_74951_0 : decode cJ13_compare_74951 0 = .ok (.lload_n 0, 1) := by decide +kernel
theorem dJ13_compare_74951_1 : decode cJ13_compare_74951 1 = .ok (.lload_n 2, 1) := by decide +kernel
theorem dJ13_compare_74951_2 : decode cJ13_compare_74951 2 = .ok (.lcmp, 1) := by decide +kernel
theorem dJ13_compare_74951_3 : decode cJ13_compare_74951 3 = .ok (.ifCond .ge 7, 3) := by decide +kernel
theorem dJ13_compare_74951_6 : decode cJ13_compare_74951 6 = .ok (.iconst (-1), 1) := by decide +kernel
theorem dJ13_compare_74951_7 : decode cJ13_compare_74951 7 = .ok (.goto 14, 3) := by decide +kernel
theorem dJ13_compare_74951_10 : decode cJ13_compare_74951 10 = .ok (.lload_n 0, 1) := by decide +kernel
theorem dJ13_compare_74951_11 : decode cJ13_compare_74951 11 = .ok (.lload_n 2, 1) := by decide +kernel
theorem dJ13_compare_74951_12 : decode cJ13_compare_74951 12 = .ok (.lcmp, 1) := by decide +kernel
theorem dJ13_compare_74951_13 : decode cJ13_compare_74951 13 = .ok (.ifCond .ne 7, 3) := by decide +kernel
theorem dJ13_compare_74951_16 : decode cJ13_compare_74951 16 = .ok (.iconst 0, 1) := by decide +kernel
theorem dJ13_compare_74951_17 : decode cJ13_compare_74951 17 = .ok (.goto 4, 3) := by decide +kernel
theorem dJ13_compare_74951_20 : decode cJ13_compare_74951 20 = .ok (.iconst 1, 1) := by decide +kernel
theorem dJ13_compare_74951_21 : decode cJ13_compare_74951 21 = .ok (.ireturn, 1) := by decide +kernel
theorem dJ9_floorDiv_f86c9_0 : decode cJ9_floorDiv_f86c9 0 = .ok (.lload_n 0, 1) := by decide +kernel
theorem dJ9_floorDiv_f86c9_1 : decode cJ9_floorDiv_f86c9 1 = .ok (.lload_n 2, 1) := by decide +kernel
theorem dJ9_floorDiv_f86c9_2 : decode cJ9_floorDiv_f86c9 2 = .ok (.ldiv, 1) := by decide +kernel
theorem dJ9_floorDiv_f86c9_3 : decode cJ9_floorDiv_f86c9 3 = .ok (.lstore 4, 2) := by decide +kernel
theorem dJ9_floorDiv_f86c9_5 : decode cJ9_floorDiv_f86c9 5 = .ok (.lload_n 0, 1) := by decide +kernel
theorem dJ9_floorDiv_f86c9_6 : decode cJ9_floorDiv_f86c9 6 = .ok (.lload_n 2, 1) := by decide +kernel
theorem dJ9_floorDiv_f86c9_7 : decode cJ9_floorDiv_f86c9 7 = .ok (.lxor, 1) := by decide +kernel
theorem dJ9_floorDiv_f86c9_8 : decode cJ9_floorDiv_f86c9 8 = .ok (.lconst 0, 1) := by decide +kernel
theorem dJ9_floorDiv_f86c9_9 : decode cJ9_floorDiv_f86c9 9 = .ok (.lcmp, 1) := by decide +kernel
theorem dJ9_floorDiv_f86c9_10 : decode cJ9_floorDiv_f86c9 10 = .ok (.ifCond .ge 17, 3) := by decide +kernel
theorem dJ9_floorDiv_f86c9_13 : decode cJ9_floorDiv_f86c9 13 = .ok (.lload 4, 2) := by decide +kernel
theorem dJ9_floorDiv_f86c9_15 : decode cJ9_floorDiv_f86c9 15 = .ok (.lload_n 2, 1) := by decide +kernel
theorem dJ9_floorDiv_f86c9_16 : decode cJ9_floorDiv_f86c9 16 = .ok (.lmul, 1) := by decide +kernel
theorem dJ9_floorDiv_f86c9_17 : decode cJ9_floorDiv_f86c9 17 = .ok (.lload_n 0, 1) := by decide +kernel
theorem dJ9_floorDiv_f86c9_18 : decode cJ9_floorDiv_f86c9 18 = .ok (.lcmp, 1) := by decide +kernel
theorem dJ9_floorDiv_f86c9_19 : decode cJ9_floorDiv_f86c9 19 = .ok (.ifCond .eq 8, 3) := by decide +kernel
theorem dJ9_floorDiv_f86c9_22 : decode cJ9_floorDiv_f86c9 22 = .ok (.lload 4, 2) := by decide +kernel
theorem dJ9_floorDiv_f86c9_24 : decode cJ9_floorDiv_f86c9 24 = .ok (.lconst 1, 1) := by decide +kernel
theorem dJ9_floorDiv_f86c9_25 : decode cJ9_floorDiv_f86c9 25 = .ok (.lsub, 1) := by decide +kernel
theorem dJ9_floorDiv_f86c9_26 : decode cJ9_floorDiv_f86c9 26 = .ok (.lreturn, 1) := by decide +kernel
theorem dJ9_floorDiv_f86c9_27 : decode cJ9_floorDiv_f86c9 27 = .ok (.lload 4, 2) := by decide +kernel
theorem dJ9_floorDiv_f86c9_29 : decode cJ9_floorDiv_f86c9 29 = .ok (.lreturn, 1) := by decide +kernel
theorem dJ9_floorMod_1978a_0 : decode cJ9_floorMod_1978a 0 = .ok (.lload_n 0, 1) := by decide +kernel
theorem dJ9_floorMod_1978a_1 : decode cJ9_floorMod_1978a 1 = .ok (.iload_n 2, 1) := by decide +kernel
theorem dJ9_floorMod_1978a_2 : decode cJ9_floorMod_1978a 2 = .ok (.i2l, 1) := by decide +kernel
theorem dJ9_floorMod_1978a_3 : decode cJ9_floorMod_1978a 3 = .ok (.invokestatic 146, 3) := by decide +kernel
theorem dJ9_floorMod_1978a_6 : decode cJ9_floorMod_1978a 6 = .ok (.l2i, 1) := by decide +kernel
theorem dJ9_floorMod_1978a_7 : decode cJ9_floorMod_1978a 7 = .ok (.ireturn, 1) := by decide +kernel
theorem dJ9_floorMod_f86c9_0 : decode cJ9_floorMod_f86c9 0 = .ok (.lload_n 0, 1) := by decide +kernel
theorem dJ9_floorMod_f86c9_1 : decode cJ9_floorMod_f86c9 1 = .ok (.lload_n 2, 1) := by decide +kernel
theorem dJ9_floorMod_f86c9_2 : decode cJ9_floorMod_f86c9 2 = .ok (.lrem, 1) := by decide +kernel
theorem dJ9_floorMod_f86c9_3 : decode cJ9_floorMod_f86c9 3 = .ok (.lstore 4, 2) := by decide +kernel
theorem dJ9_floorMod_f86c9_5 : decode cJ9_floorMod_f86c9 5 = .ok (.lload_n 0, 1) := by decide +kernel
theorem dJ9_floorMod_f86c9_6 : decode cJ9_floorMod_f86c9 6 = .ok (.lload_n 2, 1) := by decide +kernel
theorem dJ9_floorMod_f86c9_7 : decode cJ9_floorMod_f86c9 7 = .ok (.lxor, 1) := by decide +kernel
theorem dJ9_floorMod_f86c9_8 : decode cJ9_floorMod_f86c9 8 = .ok (.lconst 0, 1) := by decide +kernel
theorem dJ9_floorMod_f86c9_9 : decode cJ9_floorMod_f86c9 9 = .ok (.lcmp, 1) := by decide +kernel
theorem dJ9_floorMod_f86c9_10 : decode cJ9_floorMod_f86c9 10 = .ok (.ifCond .ge 15, 3) := by decide +kernel
theorem dJ9_floorMod_f86c9_13 : decode cJ9_floorMod_f86c9 13 = .ok (.lload 4, 2) := by decide +kernel
theorem dJ9_floorMod_f86c9_15 : decode cJ9_floorMod_f86c9 15 = .ok (.lconst 0, 1) := by decide +kernel
theorem dJ9_floorMod_f86c9_16 : decode cJ9_floorMod_f86c9 16 = .ok (.lcmp, 1) := by decide +kernel
theorem dJ9_floorMod_f86c9_17 : decode cJ9_floorMod_f86c9 17 = .ok (.ifCond .eq 8, 3) := by decide +kernel
theorem dJ9_floorMod_f86c9_20 : decode cJ9_floorMod_f86c9 20 = .ok (.lload 4, 2) := by decide +kernel
theorem dJ9_floorMod_f86c9_22 : decode cJ9_floorMod_f86c9 22 = .ok (.lload_n 2, 1) := by decide +kernel
theorem dJ9_floorMod_f86c9_23 : decode cJ9_floorMod_f86c9 23 = .ok (.ladd, 1) := by decide +kernel
theorem dJ9_floorMod_f86c9_24 : decode cJ9_floorMod_f86c9 24 = .ok (.lreturn, 1) := by decide +kernel
theorem dJ9_floorMod_f86c9_25 : decode cJ9_floorMod_f86c9 25 = .ok (.lload 4, 2) := by decide +kernel
theorem dJ9_floorMod_f86c9_27 : decode cJ9_floorMod_f86c9 27 = .ok (.lreturn, 1) := by decide +kernel
theorem dJ9_abs_0f7a4_0 : decode cJ9_abs_0f7a4 0 = .ok (.iload_n 0, 1) := by decide +kernel
theorem dJ9_abs_0f7a4_1 : decode cJ9_abs_0f7a4 1 = .ok (.ifCond .ge 8, 3) := by decide +kernel
theorem dJ9_abs_0f7a4_4 : decode cJ9_abs_0f7a4 4 = .ok (.iload_n 0, 1) := by decide +kernel
theorem dJ9_abs_0f7a4_5 : decode cJ9_abs_0f7a4 5 = .ok (.ineg, 1) := by decide +kernel
theorem dJ9_abs_0f7a4_6 : decode cJ9_abs_0f7a4 6 = .ok (.goto 4, 3) := by decide +kernel
theorem dJ9_abs_0f7a4_9 : decode cJ9_abs_0f7a4 9 = .ok (.iload_n 0, 1) := by decide +kernel
theorem dJ9_abs_0f7a4_10 : decode cJ9_abs_0f7a4 10 = .ok (.ireturn, 1) := by decide +kernel
theorem dJ9_abs_067f4_0 : decode cJ9_abs_067f4 0 = .ok (.lload_n 0, 1) := by decide +kernel
theorem dJ9_abs_067f4_1 : decode cJ9_abs_067f4 1 = .ok (.lconst 0, 1) := by decide +kernel
theorem dJ9_abs_067f4_2 : decode cJ9_abs_067f4 2 = .ok (.lcmp, 1) := by decide +kernel
theorem dJ9_abs_067f4_3 : decode cJ9_abs_067f4 3 = .ok (.ifCond .ge 8, 3) := by decide +kernel
theorem dJ9_abs_067f4_6 : decode cJ9_abs_067f4 6 = .ok (.lload_n 0, 1) := by decide +kernel
theorem dJ9_abs_067f4_7 : decode cJ9_abs_067f4 7 = .ok (.lneg, 1) := by decide +kernel
theorem dJ9_abs_067f4_8 : decode cJ9_abs_067f4 8 = .ok (.goto 4, 3) := by decide +kernel
theorem dJ9_abs_067f4_11 : decode cJ9_abs_067f4 11 = .ok (.lload_n 0, 1) := by decide +kernel
theorem dJ9_abs_067f4_12 : decode cJ9_abs_067f4 12 = .ok (.lreturn, 1) := by decide +kernel
theorem dJ9_max_f86c9_0 : decode cJ9_max_f86c9 0 = .ok (.lload_n 0, 1) := by decide +kernel
theorem dJ9_max_f86c9_1 : decode cJ9_max_f86c9 1 = .ok (.lload_n 2, 1) := by decide +kernel
theorem dJ9_max_f86c9_2 : decode cJ9_max_f86c9 2 = .ok (.lcmp, 1) := by decide +kernel
theorem dJ9_max_f86c9_3 : decode cJ9_max_f86c9 3 = .ok (.ifCond .lt 7, 3) := by decide +kernel
theorem dJ9_max_f86c9_6 : decode cJ9_max_f86c9 6 = .ok (.lload_n 0, 1) := by decide +kernel
theorem dJ9_max_f86c9_7 : decode cJ9_max_f86c9 7 = .ok (.goto 4, 3) := by decide +kernel
theorem dJ9_max_f86c9_10 : decode cJ9_max_f86c9 10 = .ok (.lload_n 2, 1) := by decide +kernel
theorem dJ9_max_f86c9_11 : decode cJ9_max_f86c9 11 = .ok (.lreturn, 1) := by decide +kernel
theorem dJ9_min_7cf53_0 : decode cJ9_min_7cf53 0 = .ok (.iload_n 0, 1) := by decide +kernel
theorem dJ9_min_7cf53_1 : decode cJ9_min_7cf53 1 = .ok (.iload_n 1, 1) := by decide +kernel
theorem dJ9_min_7cf53_2 : decode cJ9_min_7cf53 2 = .ok (.if_icmp .gt 7, 3) := by decide +kernel
theorem dJ9_min_7cf53_5 : decode cJ9_min_7cf53 5 = .ok (.iload_n 0, 1) := by decide +kernel
theorem dJ9_min_7cf53_6 : decode cJ9_min_7cf53 6 = .ok (.goto 4, 3) := by decide +kernel
theorem dJ9_min_7cf53_9 : decode cJ9_min_7cf53 9 = .ok (.iload_n 1, 1) := by decide +kernel
theorem dJ9_min_7cf53_10 : decode cJ9_min_7cf53 10 = .ok (.ireturn, 1) := by decide +kernel
theorem dJ9_min_f86c9_0 : decode cJ9_min_f86c9 0 = .ok (.lload_n 0, 1) := by decide +kernel
theorem dJ9_min_f86c9_1 : decode cJ9_min_f86c9 1 = .ok (.lload_n 2, 1) := by decide +kernel
theorem dJ9_min_f86c9_2 : decode cJ9_min_f86c9 2 = .ok (.lcmp, 1) := by decide +kernel
theorem dJ9_min_f86c9_3 : decode cJ9_min_f86c9 3 = .ok (.ifCond .gt 7, 3) := by decide +kernel
theorem dJ9_min_f86c9_6 : decode cJ9_min_f86c9 6 = .ok (.lload_n 0, 1) := by decide +kernel
theorem dJ9_min_f86c9_7 : decode cJ9_min_f86c9 7 = .ok (.goto 4, 3) := by decide +kernel
theorem dJ9_min_f86c9_10 : decode cJ9_min_f86c9 10 = .ok (.lload_n 2, 1) := by decide +kernel
theorem dJ9_min_f86c9_11 : decode cJ9_min_f86c9 11 = .ok (.lreturn, 1) := by decide +kernel
theorem dJ0_length_8abf5_0 : decode cJ0_length_8abf5 0 = .ok (.aload_n 0, 1) := by decide +kernel
theorem dJ0_length_8abf5_1 : decode cJ0_length_8abf5 1 = .ok (.getfield 9, 3) := by decide +kernel
theorem dJ0_length_8abf5_4 : decode cJ0_length_8abf5 4 = .ok (.arraylength, 1) := by decide +kernel
theorem dJ0_length_8abf5_5 : decode cJ0_length_8abf5 5 = .ok (.aload_n 0, 1) := by decide +kernel
theorem dJ0_length_8abf5_6 : decode cJ0_length_8abf5 6 = .ok (.invokevirtual 335, 3) := by decide +kernel
theorem dJ0_length_8abf5_9 : decode cJ0_length_8abf5 9 = .ok (.ishr, 1) := by decide +kernel
theorem dJ0_length_8abf5_10 : decode cJ0_length_8abf5 10 = .ok (.ireturn, 1) := by decide +kernel
theorem dJ0_charAt_5068e_0 : decode cJ0_charAt_5068e 0 = .ok (.aload_n 0, 1) := by decide +kernel
theorem dJ0_charAt_5068e_1 : decode cJ0_charAt_5068e 1 = .ok (.invokevirtual 492, 3) := by decide +kernel
theorem dJ0_charAt_5068e_4 : decode cJ0_charAt_5068e 4 = .ok (.ifCond .eq 12, 3) := by decide +kernel
theorem dJ0_charAt_5068e_7 : decode cJ0_charAt_5068e 7 = .ok (.aload_n 0, 1) := by decide +kernel
theorem dJ0_charAt_5068e_8 : decode cJ0_charAt_5068e 8 = .ok (.getfield 9, 3) := by decide +kernel
theorem dJ0_charAt_5068e_11 : decode cJ0_charAt_5068e 11 = .ok (.iload_n 1, 1) := by decide +kernel
theorem dJ0_charAt_5068e_12 : decode cJ0_charAt_5068e 12 = .ok (.invokestatic 495, 3) := by decide +kernel
theorem dJ0_charAt_5068e_15 : decode cJ0_charAt_5068e 15 = .ok (.ireturn, 1) := by decide +kernel
theorem dJ0_charAt_5068e_16 : decode cJ0_charAt_5068e 16 = .ok (.aload_n 0, 1) := by decide +kernel
theorem dJ0_charAt_5068e_17 : decode cJ0_charAt_5068e 17 = .ok (.getfield 9, 3) := by decide +kernel
theorem dJ0_charAt_5068e_20 : decode cJ0_charAt_5068e 20 = .ok (.iload_n 1, 1) := by decide +kernel
theorem dJ0_charAt_5068e_21 : decode cJ0_charAt_5068e 21 = .ok (.invokestatic 498, 3) := by decide +kernel
theorem dJ0_charAt_5068e_24 : decode cJ0_charAt_5068e 24 = .ok (.ireturn, 1) := by decide +kernel
theorem dJ0_coder_7d493_0 : decode cJ0_coder_7d493 0 = .ok (.getstatic 38, 3) := by decide +kernel
theorem dJ0_coder_7d493_3 : decode cJ0_coder_7d493 3 = .ok (.ifCond .eq 10, 3) := by decide +kernel
theorem dJ0_coder_7d493_6 : decode cJ0_coder_7d493 6 = .ok (.aload_n 0, 1) := by decide +kernel
theorem dJ0_coder_7d493_7 : decode cJ0_coder_7d493 7 = .ok (.getfield 15, 3) := by decide +kernel
theorem dJ0_coder_7d493_10 : decode cJ0_coder_7d493 10 = .ok (.goto 4, 3) := by decide +kernel
theorem dJ0_coder_7d493_13 : decode cJ0_coder_7d493 13 = .ok (.iconst 1, 1) := by decide +kernel
theorem dJ0_coder_7d493_14 : decode cJ0_coder_7d493 14 = .ok (.ireturn, 1) := by decide +kernel
theorem dJ0_isLatin1_aae02_0 : decode cJ0_isLatin1_aae02 0 = .ok (.getstatic 38, 3) := by decide +kernel
theorem dJ0_isLatin1_aae02_3 : decode cJ0_isLatin1_aae02 3 = .ok (.ifCond .eq 14, 3) := by decide +kernel
theorem dJ0_isLatin1_aae02_6 : decode cJ0_isLatin1_aae02 6 = .ok (.aload_n 0, 1) := by decide +kernel
theorem dJ0_isLatin1_aae02_7 : decode cJ0_isLatin1_aae02 7 = .ok (.getfield 15, 3) := by decide +kernel
theorem dJ0_isLatin1_aae02_10 : decode cJ0_isLatin1_aae02 10 = .ok (.ifCond .ne 7, 3) := by decide +kernel
theorem dJ0_isLatin1_aae02_13 : decode cJ0_isLatin1_aae02 13 = .ok (.iconst 1, 1) := by decide +kernel
theorem dJ0_isLatin1_aae02_14 : decode cJ0_isLatin1_aae02 14 = .ok (.goto 4, 3) := by decide +kernel
theorem dJ0_isLatin1_aae02_17 : decode cJ0_isLatin1_aae02 17 = .ok (.iconst 0, 1) := by decide +kernel
theorem dJ0_isLatin1_aae02_18 : decode cJ0_isLatin1_aae02 18 = .ok (.ireturn, 1) := by decide +kernel
theorem dJ0_checkIndex_df160_0 : decode cJ0_checkIndex_df160 0 = .ok (.iload_n 0, 1) := by decide +kernel
theorem dJ0_checkIndex_df160_1 : decode cJ0_checkIndex_df160 1 = .ok (.iload_n 1, 1) := by decide +kernel
theorem dJ0_checkIndex_df160_2 : decode cJ0_checkIndex_df160 2 = .ok (.getstatic 1053, 3) := by decide +kernel
theorem dJ0_checkIndex_df160_5 : decode cJ0_checkIndex_df160 5 = .ok (.invokestatic 1059, 3) := by decide +kernel
theorem dJ0_checkIndex_df160_8 : decode cJ0_checkIndex_df160 8 = .ok (.pop, 1) := by decide +kernel
theorem dJ0_checkIndex_df160_9 : decode cJ0_checkIndex_df160 9 = .ok (.return_, 1) := by decide +kernel
theorem dJ1_charAt_3b067_0 : decode cJ1_charAt_3b067 0 = .ok (.iload_n 1, 1) := by decide +kernel
theorem dJ1_charAt_3b067_1 : decode cJ1_charAt_3b067 1 = .ok (.aload_n 0, 1) := by decide +kernel
theorem dJ1_charAt_3b067_2 : decode cJ1_charAt_3b067 2 = .ok (.arraylength, 1) := by decide +kernel
theorem dJ1_charAt_3b067_3 : decode cJ1_charAt_3b067 3 = .ok (.invokestatic 9, 3) := by decide +kernel
theorem dJ1_charAt_3b067_6 : decode cJ1_charAt_3b067 6 = .ok (.aload_n 0, 1) := by decide +kernel
theorem dJ1_charAt_3b067_7 : decode cJ1_charAt_3b067 7 = .ok (.iload_n 1, 1) := by decide +kernel
theorem dJ1_charAt_3b067_8 : decode cJ1_charAt_3b067 8 = .ok (.baload, 1) := by decide +kernel
theorem dJ1_charAt_3b067_9 : decode cJ1_charAt_3b067 9 = .ok (.sipush 255, 3) := by decide +kernel
theorem dJ1_charAt_3b067_12 : decode cJ1_charAt_3b067 12 = .ok (.iand, 1) := by decide +kernel
theorem dJ1_charAt_3b067_13 : decode cJ1_charAt_3b067 13 = .ok (.i2c, 1) := by decide +kernel
theorem dJ1_charAt_3b067_14 : decode cJ1_charAt_3b067 14 = .ok (.ireturn, 1) := by decide +kernel
theorem dJ2_getChar_3b067_0 : decode cJ2_getChar_3b067 0 = .ok (.getstatic 44, 3) := by decide +kernel
theorem dJ2_getChar_3b067_3 : decode cJ2_getChar_3b067 3 = .ok (.ifCond .ne 25, 3) := by decide +kernel
theorem dJ2_getChar_3b067_6 : decode cJ2_getChar_3b067 6 = .ok (.iload_n 1, 1) := by decide +kernel
theorem dJ2_getChar_3b067_7 : decode cJ2_getChar_3b067 7 = .ok (.ifCond .lt 11, 3) := by decide +kernel
theorem dJ2_getChar_3b067_10 : decode cJ2_getChar_3b067 10 = .ok (.iload_n 1, 1) := by decide +kernel
theorem dJ2_getChar_3b067_11 : decode cJ2_getChar_3b067 11 = .ok (.aload_n 0, 1) := by decide +kernel
theorem dJ2_getChar_3b067_12 : decode cJ2_getChar_3b067 12 = .ok (.invokestatic 48, 3) := by decide +kernel
theorem dJ2_getChar_3b067_15 : decode cJ2_getChar_3b067 15 = .ok (.if_icmp .lt 13, 3) := by decide +kernel
theorem dJ2_getChar_3b067_18 : decode cJ2_getChar_3b067 18 = .ok (.new 52, 3) := by decide +kernel
theorem dJ2_getChar_3b067_21 : decode cJ2_getChar_3b067 21 = .ok (.dup, 1) := by decide +kernel
theorem dJ2_getChar_3b067_22 : decode cJ2_getChar_3b067 22 = .ok (.ldc 54, 2) := by decide +kernel
theorem dJ2_getChar_3b067_24 : decode cJ2_getChar_3b067 24 = .ok (.invokespecial 56, 3) := by decide +kernel
theorem dJ2_getChar_3b067_27 : decode cJ2_getChar_3b067 27 = .ok (.athrow, 1) := by decide +kernel
theorem dJ2_getChar_3b067_28 : decode cJ2_getChar_3b067 28 = .ok (.iload_n 1, 1) := by decide +kernel
theorem dJ2_getChar_3b067_29 : decode cJ2_getChar_3b067 29 = .ok (.iconst 1, 1) := by decide +kernel
theorem dJ2_getChar_3b067_30 : decode cJ2_getChar_3b067 30 = .ok (.ishl, 1) := by decide +kernel
theorem dJ2_getChar_3b067_31 : decode cJ2_getChar_3b067 31 = .ok (.istore_n 1, 1) := by decide +kernel
theorem dJ2_getChar_3b067_32 : decode cJ2_getChar_3b067 32 = .ok (.aload_n 0, 1) := by decide +kernel
