theorem dX10_convergent_63 : decode cX10_convergent 63 = .ok (.if_icmp .ge 92, 3) := by decide +kernel
theorem dX10_convergent_66 : decode cX10_convergent 66 = .ok (.lload 6, 2) := by decide +kernel
theorem dX10_convergent_68 : decode cX10_convergent 68 = .ok (.lconst 0, 1) := by decide +kernel
theorem dX10_convergent_69 : decode cX10_convergent 69 = .ok (.lcmp, 1) := by decide +kernel
theorem dX10_convergent_70 : decode cX10_convergent 70 = .ok (.ifCond .le 85, 3) := by decide +kernel
theorem dX10_convergent_73 : decode cX10_convergent 73 = .ok (.lload 4, 2) := by decide +kernel
theorem dX10_convergent_75 : decode cX10_convergent 75 = .ok (.lload 6, 2) := by decide +kernel
theorem dX10_convergent_77 : decode cX10_convergent 77 = .ok (.ldiv, 1) := by decide +kernel
theorem dX10_convergent_78 : decode cX10_convergent 78 = .ok (.lstore 17, 2) := by decide +kernel
theorem dX10_convergent_80 : decode cX10_convergent 80 = .ok (.lload 4, 2) := by decide +kernel
theorem dX10_convergent_82 : decode cX10_convergent 82 = .ok (.lload 6, 2) := by decide +kernel
theorem dX10_convergent_84 : decode cX10_convergent 84 = .ok (.lrem, 1) := by decide +kernel
theorem dX10_convergent_85 : decode cX10_convergent 85 = .ok (.lstore 19, 2) := by decide +kernel
theorem dX10_convergent_87 : decode cX10_convergent 87 = .ok (.lload 17, 2) := by decide +kernel
theorem dX10_convergent_89 : decode cX10_convergent 89 = .ok (.lload 12, 2) := by decide +kernel
theorem dX10_convergent_91 : decode cX10_convergent 91 = .ok (.lmul, 1) := by decide +kernel
theorem dX10_convergent_92 : decode cX10_convergent 92 = .ok (.lload 8, 2) := by decide +kernel
theorem dX10_convergent_94 : decode cX10_convergent 94 = .ok (.ladd, 1) := by decide +kernel
theorem dX10_convergent_95 : decode cX10_convergent 95 = .ok (.lstore 21, 2) := by decide +kernel
theorem dX10_convergent_97 : decode cX10_convergent 97 = .ok (.lload 17, 2) := by decide +kernel
theorem dX10_convergent_99 : decode cX10_convergent 99 = .ok (.lload 14, 2) := by decide +kernel
theorem dX10_convergent_101 : decode cX10_convergent 101 = .ok (.lmul, 1) := by decide +kernel
theorem dX10_convergent_102 : decode cX10_convergent 102 = .ok (.lload 10, 2) := by decide +kernel
theorem dX10_convergent_104 : decode cX10_convergent 104 = .ok (.ladd, 1) := by decide +kernel
theorem dX10_convergent_105 : decode cX10_convergent 105 = .ok (.lstore 23, 2) := by decide +kernel
theorem dX10_convergent_107 : decode cX10_convergent 107 = .ok (.iload 16, 2) := by decide +kernel
theorem dX10_convergent_109 : decode cX10_convergent 109 = .ok (.iload_n 2, 1) := by decide +kernel
theorem dX10_convergent_110 : decode cX10_convergent 110 = .ok (.if_icmp .ne 15, 3) := by decide +kernel
theorem dX10_convergent_113 : decode cX10_convergent 113 = .ok (.iload_n 3, 1) := by decide +kernel
theorem dX10_convergent_114 : decode cX10_convergent 114 = .ok (.ifCond .ne 8, 3) := by decide +kernel
theorem dX10_convergent_117 : decode cX10_convergent 117 = .ok (.lload 21, 2) := by decide +kernel
theorem dX10_convergent_119 : decode cX10_convergent 119 = .ok (.goto 5, 3) := by decide +kernel
theorem dX10_convergent_122 : decode cX10_convergent 122 = .ok (.lload 23, 2) := by decide +kernel
theorem dX10_convergent_124 : decode cX10_convergent 124 = .ok (.lreturn, 1) := by decide +kernel
theorem dX10_convergent_125 : decode cX10_convergent 125 = .ok (.lload 12, 2) := by decide +kernel
theorem dX10_convergent_127 : decode cX10_convergent 127 = .ok (.lstore 8, 2) := by decide +kernel
theorem dX10_convergent_129 : decode cX10_convergent 129 = .ok (.lload 14, 2) := by decide +kernel
theorem dX10_convergent_131 : decode cX10_convergent 131 = .ok (.lstore 10, 2) := by decide +kernel
theorem dX10_convergent_133 : decode cX10_convergent 133 = .ok (.lload 21, 2) := by decide +kernel
theorem dX10_convergent_135 : decode cX10_convergent 135 = .ok (.lstore 12, 2) := by decide +kernel
theorem dX10_convergent_137 : decode cX10_convergent 137 = .ok (.lload 23, 2) := by decide +kernel
theorem dX10_convergent_139 : decode cX10_convergent 139 = .ok (.lstore 14, 2) := by decide +kernel
theorem dX10_convergent_141 : decode cX10_convergent 141 = .ok (.lload 6, 2) := by decide +kernel
theorem dX10_convergent_143 : decode cX10_convergent 143 = .ok (.lstore 4, 2) := by decide +kernel
theorem dX10_convergent_145 : decode cX10_convergent 145 = .ok (.lload 19, 2) := by decide +kernel
theorem dX10_convergent_147 : decode cX10_convergent 147 = .ok (.lstore 6, 2) := by decide +kernel
theorem dX10_convergent_149 : decode cX10_convergent 149 = .ok (.iinc 16 1, 3) := by decide +kernel
theorem dX10_convergent_152 : decode cX10_convergent 152 = .ok (.goto (-94), 3) := by decide +kernel
theorem dX10_convergent_155 : decode cX10_convergent 155 = .ok (.ldc2_w 228, 3) := by decide +kernel
theorem dX10_convergent_158 : decode cX10_convergent 158 = .ok (.lreturn, 1) := by decide +kernel
theorem dX10_bestFraction_0 : decode cX10_bestFraction 0 = .ok (.aload_n 0, 1) := by decide +kernel
theorem dX10_bestFraction_1 : decode cX10_bestFraction 1 = .ok (.iload_n 1, 1) := by decide +kernel
theorem dX10_bestFraction_2 : decode cX10_bestFraction 2 = .ok (.invokevirtual 140, 3) := by decide +kernel
theorem dX10_bestFraction_5 : decode cX10_bestFraction 5 = .ok (.iload_n 2, 1) := by decide +kernel
theorem dX10_bestFraction_6 : decode cX10_bestFraction 6 = .ok (.iconst 1, 1) := by decide +kernel
theorem dX10_bestFraction_7 : decode cX10_bestFraction 7 = .ok (.sipush 10000, 3) := by decide +kernel
theorem dX10_bestFraction_10 : decode cX10_bestFraction 10 = .ok (.invokestatic 117, 3) := by decide +kernel
theorem dX10_bestFraction_13 : decode cX10_bestFraction 13 = .ok (.iload_n 3, 1) := by decide +kernel
theorem dX10_bestFraction_14 : decode cX10_bestFraction 14 = .ok (.iconst 0, 1) := by decide +kernel
theorem dX10_bestFraction_15 : decode cX10_bestFraction 15 = .ok (.iconst 1, 1) := by decide +kernel
theorem dX10_bestFraction_16 : decode cX10_bestFraction 16 = .ok (.invokestatic 117, 3) := by decide +kernel
theorem dX10_bestFraction_19 : decode cX10_bestFraction 19 = .ok (.aload_n 0, 1) := by decide +kernel
theorem dX10_bestFraction_20 : decode cX10_bestFraction 20 = .ok (.getfield 47, 3) := by decide +kernel
theorem dX10_bestFraction_23 : decode cX10_bestFraction 23 = .ok (.aload_n 0, 1) := by decide +kernel
theorem dX10_bestFraction_24 : decode cX10_bestFraction 24 = .ok (.getfield 19, 3) := by decide +kernel
theorem dX10_bestFraction_27 : decode cX10_bestFraction 27 = .ok (.getfield 143, 3) := by decide +kernel
theorem dX10_bestFraction_30 : decode cX10_bestFraction 30 = .ok (.iload_n 1, 1) := by decide +kernel
theorem dX10_bestFraction_31 : decode cX10_bestFraction 31 = .ok (.iaload, 1) := by decide +kernel
theorem dX10_bestFraction_32 : decode cX10_bestFraction 32 = .ok (.iload_n 2, 1) := by decide +kernel
theorem dX10_bestFraction_33 : decode cX10_bestFraction 33 = .ok (.invokevirtual 274, 3) := by decide +kernel
theorem dX10_bestFraction_36 : decode cX10_bestFraction 36 = .ok (.istore 4, 2) := by decide +kernel
theorem dX10_bestFraction_38 : decode cX10_bestFraction 38 = .ok (.iload_n 3, 1) := by decide +kernel
theorem dX10_bestFraction_39 : decode cX10_bestFraction 39 = .ok (.ifCond .ne 20, 3) := by decide +kernel
theorem dX10_bestFraction_42 : decode cX10_bestFraction 42 = .ok (.aload_n 0, 1) := by decide +kernel
theorem dX10_bestFraction_43 : decode cX10_bestFraction 43 = .ok (.getfield 19, 3) := by decide +kernel
theorem dX10_bestFraction_46 : decode cX10_bestFraction 46 = .ok (.getfield 143, 3) := by decide +kernel
theorem dX10_bestFraction_49 : decode cX10_bestFraction 49 = .ok (.iload_n 1, 1) := by decide +kernel
theorem dX10_bestFraction_50 : decode cX10_bestFraction 50 = .ok (.iaload, 1) := by decide +kernel
theorem dX10_bestFraction_51 : decode cX10_bestFraction 51 = .ok (.iload 4, 2) := by decide +kernel
theorem dX10_bestFraction_53 : decode cX10_bestFraction 53 = .ok (.invokestatic 277, 3) := by decide +kernel
theorem dX10_bestFraction_56 : decode cX10_bestFraction 56 = .ok (.goto 5, 3) := by decide +kernel
theorem dX10_bestFraction_59 : decode cX10_bestFraction 59 = .ok (.iload 4, 2) := by decide +kernel
theorem dX10_bestFraction_61 : decode cX10_bestFraction 61 = .ok (.ireturn, 1) := by decide +kernel
theorem dX10_nextMeeting_0 : decode cX10_nextMeeting 0 = .ok (.aload_n 0, 1) := by decide +kernel
theorem dX10_nextMeeting_1 : decode cX10_nextMeeting 1 = .ok (.iload_n 1, 1) := by decide +kernel
theorem dX10_nextMeeting_2 : decode cX10_nextMeeting 2 = .ok (.invokevirtual 140, 3) := by decide +kernel
theorem dX10_nextMeeting_5 : decode cX10_nextMeeting 5 = .ok (.aload_n 0, 1) := by decide +kernel
theorem dX10_nextMeeting_6 : decode cX10_nextMeeting 6 = .ok (.iload_n 2, 1) := by decide +kernel
theorem dX10_nextMeeting_7 : decode cX10_nextMeeting 7 = .ok (.invokevirtual 140, 3) := by decide +kernel
theorem dX10_nextMeeting_10 : decode cX10_nextMeeting 10 = .ok (.iload_n 3, 1) := by decide +kernel
theorem dX10_nextMeeting_11 : decode cX10_nextMeeting 11 = .ok (.iconst 0, 1) := by decide +kernel
theorem dX10_nextMeeting_12 : decode cX10_nextMeeting 12 = .ok (.ldc_w 280, 3) := by decide +kernel
theorem dX10_nextMeeting_15 : decode cX10_nextMeeting 15 = .ok (.invokestatic 117, 3) := by decide +kernel
theorem dX10_nextMeeting_18 : decode cX10_nextMeeting 18 = .ok (.iload 4, 2) := by decide +kernel
theorem dX10_nextMeeting_20 : decode cX10_nextMeeting 20 = .ok (.iconst 0, 1) := by decide +kernel
theorem dX10_nextMeeting_21 : decode cX10_nextMeeting 21 = .ok (.ldc_w 281, 3) := by decide +kernel
theorem dX10_nextMeeting_24 : decode cX10_nextMeeting 24 = .ok (.invokestatic 117, 3) := by decide +kernel
theorem dX10_nextMeeting_27 : decode cX10_nextMeeting 27 = .ok (.aload_n 0, 1) := by decide +kernel
theorem dX10_nextMeeting_28 : decode cX10_nextMeeting 28 = .ok (.iload_n 1, 1) := by decide +kernel
theorem dX10_nextMeeting_29 : decode cX10_nextMeeting 29 = .ok (.aload_n 0, 1) := by decide +kernel
theorem dX10_nextMeeting_30 : decode cX10_nextMeeting 30 = .ok (.getfield 54, 3) := by decide +kernel
theorem dX10_nextMeeting_33 : decode cX10_nextMeeting 33 = .ok (.invokevirtual 181, 3) := by decide +kernel
theorem dX10_nextMeeting_36 : decode cX10_nextMeeting 36 = .ok (.astore 5, 2) := by decide +kernel
theorem dX10_nextMeeting_38 : decode cX10_nextMeeting 38 = .ok (.aload_n 0, 1) := by decide +kernel
theorem dX10_nextMeeting_39 : decode cX10_nextMeeting 39 = .ok (.iload_n 2, 1) := by decide +kernel
theorem dX10_nextMeeting_40 : decode cX10_nextMeeting 40 = .ok (.aload_n 0, 1) := by decide +kernel
theorem dX10_nextMeeting_41 : decode cX10_nextMeeting 41 = .ok (.getfield 58, 3) := by decide +kernel
theorem dX10_nextMeeting_44 : decode cX10_nextMeeting 44 = .ok (.invokevirtual 181, 3) := by decide +kernel
theorem dX10_nextMeeting_47 : decode cX10_nextMeeting 47 = .ok (.astore 6, 2) := by decide +kernel
theorem dX10_nextMeeting_49 : decode cX10_nextMeeting 49 = .ok (.iload_n 3, 1) := by decide +kernel
theorem dX10_nextMeeting_50 : decode cX10_nextMeeting 50 = .ok (.iconst 1, 1) := by decide +kernel
theorem dX10_nextMeeting_51 : decode cX10_nextMeeting 51 = .ok (.iadd, 1) := by decide +kernel
theorem dX10_nextMeeting_52 : decode cX10_nextMeeting 52 = .ok (.istore 7, 2) := by decide +kernel
theorem dX10_nextMeeting_54 : decode cX10_nextMeeting 54 = .ok (.iload 7, 2) := by decide +kernel
theorem dX10_nextMeeting_56 : decode cX10_nextMeeting 56 = .ok (.iload_n 3, 1) := by decide +kernel
theorem dX10_nextMeeting_57 : decode cX10_nextMeeting 57 = .ok (.sipush 10000, 3) := by decide +kernel
theorem dX10_nextMeeting_60 : decode cX10_nextMeeting 60 = .ok (.iadd, 1) := by decide +kernel
theorem dX10_nextMeeting_61 : decode cX10_nextMeeting 61 = .ok (.if_icmp .gt 34, 3) := by decide +kernel
theorem dX10_nextMeeting_64 : decode cX10_nextMeeting 64 = .ok (.aload 5, 2) := by decide +kernel
theorem dX10_nextMeeting_66 : decode cX10_nextMeeting 66 = .ok (.iload 7, 2) := by decide +kernel
theorem dX10_nextMeeting_68 : decode cX10_nextMeeting 68 = .ok (.invokevirtual 222, 3) := by decide +kernel
theorem dX10_nextMeeting_71 : decode cX10_nextMeeting 71 = .ok (.aload 6, 2) := by decide +kernel
theorem dX10_nextMeeting_73 : decode cX10_nextMeeting 73 = .ok (.iload 7, 2) := by decide +kernel
theorem dX10_nextMeeting_75 : decode cX10_nextMeeting 75 = .ok (.invokevirtual 222, 3) := by decide +kernel
theorem dX10_nextMeeting_78 : decode cX10_nextMeeting 78 = .ok (.invokestatic 282, 3) := by decide +kernel
theorem dX10_nextMeeting_81 : decode cX10_nextMeeting 81 = .ok (.iload 4, 2) := by decide +kernel
theorem dX10_nextMeeting_83 : decode cX10_nextMeeting 83 = .ok (.if_icmp .gt 6, 3) := by decide +kernel
theorem dX10_nextMeeting_86 : decode cX10_nextMeeting 86 = .ok (.iload 7, 2) := by decide +kernel
theorem dX10_nextMeeting_88 : decode cX10_nextMeeting 88 = .ok (.ireturn, 1) := by decide +kernel
theorem dX10_nextMeeting_89 : decode cX10_nextMeeting 89 = .ok (.iinc 7 1, 3) := by decide +kernel
theorem dX10_nextMeeting_92 : decode cX10_nextMeeting 92 = .ok (.goto (-38), 3) := by decide +kernel
theorem dX10_nextMeeting_95 : decode cX10_nextMeeting 95 = .ok (.iconst (-1), 1) := by decide +kernel
theorem dX10_nextMeeting_96 : decode cX10_nextMeeting 96 = .ok (.ireturn, 1) := by decide +kernel
theorem dX10_meetingTime_0 : decode cX10_meetingTime 0 = .ok (.aload_n 0, 1) := by decide +kernel
theorem dX10_meetingTime_1 : decode cX10_meetingTime 1 = .ok (.iload_n 1, 1) := by decide +kernel
theorem dX10_meetingTime_2 : decode cX10_meetingTime 2 = .ok (.invokevirtual 140, 3) := by decide +kernel
theorem dX10_meetingTime_5 : decode cX10_meetingTime 5 = .ok (.aload_n 0, 1) := by decide +kernel
theorem dX10_meetingTime_6 : decode cX10_meetingTime 6 = .ok (.iload_n 2, 1) := by decide +kernel
theorem dX10_meetingTime_7 : decode cX10_meetingTime 7 = .ok (.invokevirtual 140, 3) := by decide +kernel
theorem dX10_meetingTime_10 : decode cX10_meetingTime 10 = .ok (.iload_n 3, 1) := by decide +kernel
theorem dX10_meetingTime_11 : decode cX10_meetingTime 11 = .ok (.iconst 0, 1) := by decide +kernel
theorem dX10_meetingTime_12 : decode cX10_meetingTime 12 = .ok (.iconst 1, 1) := by decide +kernel
theorem dX10_meetingTime_13 : decode cX10_meetingTime 13 = .ok (.invokestatic 117, 3) := by decide +kernel
theorem dX10_meetingTime_16 : decode cX10_meetingTime 16 = .ok (.aload_n 0, 1) := by decide +kernel
theorem dX10_meetingTime_17 : decode cX10_meetingTime 17 = .ok (.iload_n 1, 1) := by decide +kernel
theorem dX10_meetingTime_18 : decode cX10_meetingTime 18 = .ok (.aload_n 0, 1) := by decide +kernel
theorem dX10_meetingTime_19 : decode cX10_meetingTime 19 = .ok (.getfield 54, 3) := by decide +kernel
theorem dX10_meetingTime_22 : decode cX10_meetingTime 22 = .ok (.invokevirtual 181, 3) := by decide +kernel
theorem dX10_meetingTime_25 : decode cX10_meetingTime 25 = .ok (.astore 4, 2) := by decide +kernel
theorem dX10_meetingTime_27 : decode cX10_meetingTime 27 = .ok (.aload_n 0, 1) := by decide +kernel
theorem dX10_meetingTime_28 : decode cX10_meetingTime 28 = .ok (.iload_n 2, 1) := by decide +kernel
theorem dX10_meetingTime_29 : decode cX10_meetingTime 29 = .ok (.aload_n 0, 1) := by decide +kernel
theorem dX10_meetingTime_30 : decode cX10_meetingTime 30 = .ok (.getfield 58, 3) := by decide +kernel
theorem dX10_meetingTime_33 : decode cX10_meetingTime 33 = .ok (.invokevirtual 181, 3) := by decide +kernel
theorem dX10_meetingTime_36 : decode cX10_meetingTime 36 = .ok (.astore 5, 2) := by decide +kernel
theorem dX10_meetingTime_38 : decode cX10_meetingTime 38 = .ok (.aload 4, 2) := by decide +kernel
theorem dX10_meetingTime_40 : decode cX10_meetingTime 40 = .ok (.aload 5, 2) := by decide +kernel
theorem dX10_meetingTime_42 : decode cX10_meetingTime 42 = .ok (.getfield 185, 3) := by decide +kernel
theorem dX10_meetingTime_45 : decode cX10_meetingTime 45 = .ok (.lneg, 1) := by decide +kernel
theorem dX10_meetingTime_46 : decode cX10_meetingTime 46 = .ok (.aload 5, 2) := by decide +kernel
theorem dX10_meetingTime_48 : decode cX10_meetingTime 48 = .ok (.getfield 189, 3) := by decide +kernel
theorem dX10_meetingTime_51 : decode cX10_meetingTime 51 = .ok (.invokevirtual 285, 3) := by decide +kernel
theorem dX10_meetingTime_54 : decode cX10_meetingTime 54 = .ok (.aload 4, 2) := by decide +kernel
theorem dX10_meetingTime_56 : decode cX10_meetingTime 56 = .ok (.getfield 185, 3) := by decide +kernel
theorem dX10_meetingTime_59 : decode cX10_meetingTime 59 = .ok (.lconst 0, 1) := by decide +kernel
theorem dX10_meetingTime_60 : decode cX10_meetingTime 60 = .ok (.lcmp, 1) := by decide +kernel
theorem dX10_meetingTime_61 : decode cX10_meetingTime 61 = .ok (.ifCond .ne 7, 3) := by decide +kernel
theorem dX10_meetingTime_64 : decode cX10_meetingTime 64 = .ok (.ldc2_w 228, 3) := by decide +kernel
theorem dX10_meetingTime_67 : decode cX10_meetingTime 67 = .ok (.lreturn, 1) := by decide +kernel
theorem dX10_meetingTime_68 : decode cX10_meetingTime 68 = .ok (.iload_n 3, 1) := by decide +kernel
theorem dX10_meetingTime_69 : decode cX10_meetingTime 69 = .ok (.ifCond .ne 11, 3) := by decide +kernel
theorem dX10_meetingTime_72 : decode cX10_meetingTime 72 = .ok (.aload 4, 2) := by decide +kernel
theorem dX10_meetingTime_74 : decode cX10_meetingTime 74 = .ok (.getfield 189, 3) := by decide +kernel
theorem dX10_meetingTime_77 : decode cX10_meetingTime 77 = .ok (.goto 11, 3) := by decide +kernel
theorem dX10_meetingTime_80 : decode cX10_meetingTime 80 = .ok (.aload 4, 2) := by decide +kernel
theorem dX10_meetingTime_82 : decode cX10_meetingTime 82 = .ok (.getfield 185, 3) := by decide +kernel
theorem dX10_meetingTime_85 : decode cX10_meetingTime 85 = .ok (.invokestatic 239, 3) := by decide +kernel
theorem dX10_meetingTime_88 : decode cX10_meetingTime 88 = .ok (.lreturn, 1) := by decide +kernel
theorem dX10_aligned_0 : decode cX10_aligned 0 = .ok (.aload_n 0, 1) := by decide +kernel
theorem dX10_aligned_1 : decode cX10_aligned 1 = .ok (.iload_n 1, 1) := by decide +kernel
theorem dX10_aligned_2 : decode cX10_aligned 2 = .ok (.invokevirtual 140, 3) := by decide +kernel
theorem dX10_aligned_5 : decode cX10_aligned 5 = .ok (.iload_n 2, 1) := by decide +kernel
theorem dX10_aligned_6 : decode cX10_aligned 6 = .ok (.iconst 0, 1) := by decide +kernel
theorem dX10_aligned_7 : decode cX10_aligned 7 = .ok (.ldc 199, 2) := by decide +kernel
theorem dX10_aligned_9 : decode cX10_aligned 9 = .ok (.invokestatic 117, 3) := by decide +kernel
theorem dX10_aligned_12 : decode cX10_aligned 12 = .ok (.iload_n 3, 1) := by decide +kernel
theorem dX10_aligned_13 : decode cX10_aligned 13 = .ok (.iconst 0, 1) := by decide +kernel
theorem dX10_aligned_14 : decode cX10_aligned 14 = .ok (.ldc_w 281, 3) := by decide +kernel
theorem dX10_aligned_17 : decode cX10_aligned 17 = .ok (.invokestatic 117, 3) := by decide +kernel
theorem dX10_aligned_20 : decode cX10_aligned 20 = .ok (.aload_n 0, 1) := by decide +kernel
theorem dX10_aligned_21 : decode cX10_aligned 21 = .ok (.iload_n 1, 1) := by decide +kernel
theorem dX10_aligned_22 : decode cX10_aligned 22 = .ok (.aload_n 0, 1) := by decide +kernel
theorem dX10_aligned_23 : decode cX10_aligned 23 = .ok (.getfield 54, 3) := by decide +kernel
theorem dX10_aligned_26 : decode cX10_aligned 26 = .ok (.invokevirtual 181, 3) := by decide +kernel
theorem dX10_aligned_29 : decode cX10_aligned 29 = .ok (.iload_n 2, 1) := by decide +kernel
theorem dX10_aligned_30 : decode cX10_aligned 30 = .ok (.invokevirtual 222, 3) := by decide +kernel
theorem dX10_aligned_33 : decode cX10_aligned 33 = .ok (.istore 4, 2) := by decide +kernel
theorem dX10_aligned_35 : decode cX10_aligned 35 = .ok (.iconst 0, 1) := by decide +kernel
theorem dX10_aligned_36 : decode cX10_aligned 36 = .ok (.istore 5, 2) := by decide +kernel
theorem dX10_aligned_38 : decode cX10_aligned 38 = .ok (.iconst 0, 1) := by decide +kernel
theorem dX10_aligned_39 : decode cX10_aligned 39 = .ok (.istore 6, 2) := by decide +kernel
theorem dX10_aligned_41 : decode cX10_aligned 41 = .ok (.iload 6, 2) := by decide +kernel
theorem dX10_aligned_43 : decode cX10_aligned 43 = .ok (.aload_n 0, 1) := by decide +kernel
theorem dX10_aligned_44 : decode cX10_aligned 44 = .ok (.getfield 19, 3) := by decide +kernel
theorem dX10_aligned_47 : decode cX10_aligned 47 = .ok (.getfield 108, 3) := by decide +kernel
theorem dX10_aligned_50 : decode cX10_aligned 50 = .ok (.if_icmp .ge 41, 3) := by decide +kernel
theorem dX10_aligned_53 : decode cX10_aligned 53 = .ok (.iload 4, 2) := by decide +kernel
theorem dX10_aligned_55 : decode cX10_aligned 55 = .ok (.aload_n 0, 1) := by decide +kernel
theorem dX10_aligned_56 : decode cX10_aligned 56 = .ok (.iload 6, 2) := by decide +kernel
theorem dX10_aligned_58 : decode cX10_aligned 58 = .ok (.aload_n 0, 1) := by decide +kernel
theorem dX10_aligned_59 : decode cX10_aligned 59 = .ok (.getfield 58, 3) := by decide +kernel
theorem dX10_aligned_62 : decode cX10_aligned 62 = .ok (.invokevirtual 181, 3) := by decide +kernel
theorem dX10_aligned_65 : decode cX10_aligned 65 = .ok (.iload_n 2, 1) := by decide +kernel
theorem dX10_aligned_66 : decode cX10_aligned 66 = .ok (.invokevirtual 222, 3) := by decide +kernel
theorem dX10_aligned_69 : decode cX10_aligned 69 = .ok (.invokestatic 282, 3) := by decide +kernel
theorem dX10_aligned_72 : decode cX10_aligned 72 = .ok (.iload_n 3, 1) := by decide +kernel
theorem dX10_aligned_73 : decode cX10_aligned 73 = .ok (.if_icmp .gt 12, 3) := by decide +kernel
theorem dX10_aligned_76 : decode cX10_aligned 76 = .ok (.iload 5, 2) := by decide +kernel
theorem dX10_aligned_78 : decode cX10_aligned 78 = .ok (.iconst 1, 1) := by decide +kernel
theorem dX10_aligned_79 : decode cX10_aligned 79 = .ok (.iload 6, 2) := by decide +kernel
theorem dX10_aligned_81 : decode cX10_aligned 81 = .ok (.ishl, 1) := by decide +kernel
theorem dX10_aligned_82 : decode cX10_aligned 82 = .ok (.ior, 1) := by decide +kernel
theorem dX10_aligned_83 : decode cX10_aligned 83 = .ok (.istore 5, 2) := by decide +kernel
theorem dX10_aligned_85 : decode cX10_aligned 85 = .ok (.iinc 6 1, 3) := by decide +kernel
theorem dX10_aligned_88 : decode cX10_aligned 88 = .ok (.goto (-47), 3) := by decide +kernel
theorem dX10_aligned_91 : decode cX10_aligned 91 = .ok (.iload 5, 2) := by decide +kernel
theorem dX10_aligned_93 : decode cX10_aligned 93 = .ok (.ireturn, 1) := by decide +kernel
theorem dX10_missing_0 : decode cX10_missing 0 = .ok (.aload_n 0, 1) := by decide +kernel
theorem dX10_missing_1 : decode cX10_missing 1 = .ok (.iload_n 1, 1) := by decide +kernel
theorem dX10_missing_2 : decode cX10_missing 2 = .ok (.invokevirtual 140, 3) := by decide +kernel
theorem dX10_missing_5 : decode cX10_missing 5 = .ok (.aload_n 0, 1) := by decide +kernel
theorem dX10_missing_6 : decode cX10_missing 6 = .ok (.getfield 26, 3) := by decide +kernel
theorem dX10_missing_9 : decode cX10_missing 9 = .ok (.getfield 154, 3) := by decide +kernel
theorem dX10_missing_12 : decode cX10_missing 12 = .ok (.iload_n 1, 1) := by decide +kernel
theorem dX10_missing_13 : decode cX10_missing 13 = .ok (.aaload, 1) := by decide +kernel
theorem dX10_missing_14 : decode cX10_missing 14 = .ok (.astore_n 2, 1) := by decide +kernel
theorem dX10_missing_15 : decode cX10_missing 15 = .ok (.iconst 0, 1) := by decide +kernel
theorem dX10_missing_16 : decode cX10_missing 16 = .ok (.istore_n 3, 1) := by decide +kernel
theorem dX10_missing_17 : decode cX10_missing 17 = .ok (.iconst 0, 1) := by decide +kernel
theorem dX10_missing_18 : decode cX10_missing 18 = .ok (.istore 4, 2) := by decide +kernel
theorem dX10_missing_20 : decode cX10_missing 20 = .ok (.iload 4, 2) := by decide +kernel
theorem dX10_missing_22 : decode cX10_missing 22 = .ok (.aload_n 2, 1) := by decide +kernel
theorem dX10_missing_23 : decode cX10_missing 23 = .ok (.getfield 158, 3) := by decide +kernel
theorem dX10_missing_26 : decode cX10_missing 26 = .ok (.if_icmp .ge 58, 3) := by decide +kernel
theorem dX10_missing_29 : decode cX10_missing 29 = .ok (.aload_n 0, 1) := by decide +kernel
theorem dX10_missing_30 : decode cX10_missing 30 = .ok (.getfield 26, 3) := by decide +kernel
theorem dX10_missing_33 : decode cX10_missing 33 = .ok (.aload_n 2, 1) := by decide +kernel
theorem dX10_missing_34 : decode cX10_missing 34 = .ok (.iload 4, 2) := by decide +kernel
theorem dX10_missing_36 : decode cX10_missing 36 = .ok (.iconst 1, 1) := by decide +kernel
theorem dX10_missing_37 : decode cX10_missing 37 = .ok (.invokevirtual 172, 3) := by decide +kernel
theorem dX10_missing_40 : decode cX10_missing 40 = .ok (.invokevirtual 289, 3) := by decide +kernel
theorem dX10_missing_43 : decode cX10_missing 43 = .ok (.ifCond .ne 6, 3) := by decide +kernel
theorem dX10_missing_46 : decode cX10_missing 46 = .ok (.iinc 3 1, 3) := by decide +kernel
theorem dX10_missing_49 : decode cX10_missing 49 = .ok (.aload_n 2, 1) := by decide +kernel
theorem dX10_missing_50 : decode cX10_missing 50 = .ok (.iload 4, 2) := by decide +kernel
theorem dX10_missing_52 : decode cX10_missing 52 = .ok (.invokevirtual 293, 3) := by decide +kernel
theorem dX10_missing_55 : decode cX10_missing 55 = .ok (.ifCond .eq 23, 3) := by decide +kernel
theorem dX10_missing_58 : decode cX10_missing 58 = .ok (.aload_n 0, 1) := by decide +kernel
theorem dX10_missing_59 : decode cX10_missing 59 = .ok (.getfield 26, 3) := by decide +kernel
theorem dX10_missing_62 : decode cX10_missing 62 = .ok (.aload_n 2, 1) := by decide +kernel
theorem dX10_missing_63 : decode cX10_missing 63 = .ok (.iload 4, 2) := by decide +kernel
theorem dX10_missing_65 : decode cX10_missing 65 = .ok (.iconst 2, 1) := by decide +kernel
theorem dX10_missing_66 : decode cX10_missing 66 = .ok (.invokevirtual 172, 3) := by decide +kernel
theorem dX10_missing_69 : decode cX10_missing 69 = .ok (.invokevirtual 289, 3) := by decide +kernel
theorem dX10_missing_72 : decode cX10_missing 72 = .ok (.ifCond .ne 6, 3) := by decide +kernel
theorem dX10_missing_75 : decode cX10_missing 75 = .ok (.iinc 3 1, 3) := by decide +kernel
theorem dX10_missing_78 : decode cX10_missing 78 = .ok (.iinc 4 1, 3) := by decide +kernel
theorem dX10_missing_81 : decode cX10_missing 81 = .ok (.goto (-61), 3) := by decide +kernel
theorem dX10_missing_84 : decode cX10_missing 84 = .ok (.iload_n 3, 1) := by decide +kernel
theorem dX10_missing_85 : decode cX10_missing 85 = .ok (.ireturn, 1) := by decide +kernel
theorem dX10_uses_0 : decode cX10_uses 0 = .ok (.iconst 0, 1) := by decide +kernel
theorem dX10_uses_1 : decode cX10_uses 1 = .ok (.istore_n 2, 1) := by decide +kernel
theorem dX10_uses_2 : decode cX10_uses 2 = .ok (.iconst 0, 1) := by decide +kernel
theorem dX10_uses_3 : decode cX10_uses 3 = .ok (.istore_n 3, 1) := by decide +kernel
theorem dX10_uses_4 : decode cX10_uses 4 = .ok (.iload_n 3, 1) := by decide +kernel
theorem dX10_uses_5 : decode cX10_uses 5 = .ok (.aload_n 0, 1) := by decide +kernel
theorem dX10_uses_6 : decode cX10_uses 6 = .ok (.getfield 19, 3) := by decide +kernel
theorem dX10_uses_9 : decode cX10_uses 9 = .ok (.getfield 108, 3) := by decide +kernel
theorem dX10_uses_12 : decode cX10_uses 12 = .ok (.if_icmp .ge 25, 3) := by decide +kernel
theorem dX10_uses_15 : decode cX10_uses 15 = .ok (.iload_n 2, 1) := by decide +kernel
theorem dX10_uses_16 : decode cX10_uses 16 = .ok (.aload_n 0, 1) := by decide +kernel
theorem dX10_uses_17 : decode cX10_uses 17 = .ok (.getfield 26, 3) := by decide +kernel
theorem dX10_uses_20 : decode cX10_uses 20 = .ok (.getfield 154, 3) := by decide +kernel
theorem dX10_uses_23 : decode cX10_uses 23 = .ok (.iload_n 3, 1) := by decide +kernel
theorem dX10_uses_24 : decode cX10_uses 24 = .ok (.aaload, 1) := by decide +kernel
theorem dX10_uses_25 : decode cX10_uses 25 = .ok (.iload_n 1, 1) := by decide +kernel
theorem dX10_uses_26 : decode cX10_uses 26 = .ok (.invokevirtual 296, 3) := by decide +kernel
theorem dX10_uses_29 : decode cX10_uses 29 = .ok (.iadd, 1) := by decide +kernel
theorem dX10_uses_30 : decode cX10_uses 30 = .ok (.istore_n 2, 1) := by decide +kernel
theorem dX10_uses_31 : decode cX10_uses 31 = .ok (.iinc 3 1, 3) := by decide +kernel
theorem dX10_uses_34 : decode cX10_uses 34 = .ok (.goto (-30), 3) := by decide +kernel
theorem dX10_uses_37 : decode cX10_uses 37 = .ok (.iload_n 2, 1) := by decide +kernel
theorem dX10_uses_38 : decode cX10_uses 38 = .ok (.ireturn, 1) := by decide +kernel
theorem dX10_build_0 : decode cX10_build 0 = .ok (.aload_n 0, 1) := by decide +kernel
theorem dX10_build_1 : decode cX10_build 1 = .ok (.iload_n 1, 1) := by decide +kernel
theorem dX10_build_2 : decode cX10_build 2 = .ok (.invokevirtual 140, 3) := by decide +kernel
theorem dX10_build_5 : decode cX10_build 5 = .ok (.aload_n 0, 1) := by decide +kernel
theorem dX10_build_6 : decode cX10_build 6 = .ok (.getfield 26, 3) := by decide +kernel
theorem dX10_build_9 : decode cX10_build 9 = .ok (.getfield 121, 3) := by decide +kernel
theorem dX10_build_12 : decode cX10_build 12 = .ok (.iconst 2, 1) := by decide +kernel
theorem dX10_build_13 : decode cX10_build 13 = .ok (.if_icmp .ge 14, 3) := by decide +kernel
theorem dX10_build_16 : decode cX10_build 16 = .ok (.new 299, 3) := by decide +kernel
theorem dX10_build_19 : decode cX10_build 19 = .ok (.dup, 1) := by decide +kernel
theorem dX10_build_20 : decode cX10_build 20 = .ok (.ldc_w 301, 3) := by decide +kernel
theorem dX10_build_23 : decode cX10_build 23 = .ok (.invokespecial 303, 3) := by decide +kernel
theorem dX10_build_26 : decode cX10_build 26 = .ok (.athrow, 1) := by decide +kernel
theorem dX10_build_27 : decode cX10_build 27 = .ok (.aload_n 0, 1) := by decide +kernel
theorem dX10_build_28 : decode cX10_build 28 = .ok (.iload_n 1, 1) := by decide +kernel
theorem dX10_build_29 : decode cX10_build 29 = .ok (.aload_n 0, 1) := by decide +kernel
theorem dX10_build_30 : decode cX10_build 30 = .ok (.getfield 54, 3) := by decide +kernel
theorem dX10_build_33 : decode cX10_build 33 = .ok (.invokevirtual 257, 3) := by decide +kernel
theorem dX10_build_36 : decode cX10_build 36 = .ok (.astore_n 2, 1) := by decide +kernel
theorem dX10_build_37 : decode cX10_build 37 = .ok (.aload_n 0, 1) := by decide +kernel
theorem dX10_build_38 : decode cX10_build 38 = .ok (.getfield 47, 3) := by decide +kernel
theorem dX10_build_41 : decode cX10_build 41 = .ok (.aload_n 0, 1) := by decide +kernel
theorem dX10_build_42 : decode cX10_build 42 = .ok (.getfield 26, 3) := by decide +kernel
theorem dX10_build_45 : decode cX10_build 45 = .ok (.aload_n 2, 1) := by decide +kernel
theorem dX10_build_46 : decode cX10_build 46 = .ok (.invokevirtual 267, 3) := by decide +kernel
theorem dX10_build_49 : decode cX10_build 49 = .ok (.aload_n 0, 1) := by decide +kernel
theorem dX10_build_50 : decode cX10_build 50 = .ok (.getfield 33, 3) := by decide +kernel
theorem dX10_build_53 : decode cX10_build 53 = .ok (.aload_n 0, 1) := by decide +kernel
theorem dX10_build_54 : decode cX10_build 54 = .ok (.getfield 26, 3) := by decide +kernel
theorem dX10_build_57 : decode cX10_build 57 = .ok (.invokevirtual 304, 3) := by decide +kernel
theorem dX10_build_60 : decode cX10_build 60 = .ok (.aload_n 0, 1) := by decide +kernel
theorem dX10_build_61 : decode cX10_build 61 = .ok (.getfield 26, 3) := by decide +kernel
theorem dX10_build_64 : decode cX10_build 64 = .ok (.getfield 154, 3) := by decide +kernel
theorem dX10_build_67 : decode cX10_build 67 = .ok (.iload_n 1, 1) := by decide +kernel
theorem dX10_build_68 : decode cX10_build 68 = .ok (.aaload, 1) := by decide +kernel
theorem dX10_build_69 : decode cX10_build 69 = .ok (.astore_n 3, 1) := by decide +kernel
theorem dX10_build_70 : decode cX10_build 70 = .ok (.aload_n 3, 1) := by decide +kernel
theorem dX10_build_71 : decode cX10_build 71 = .ok (.iconst 0, 1) := by decide +kernel
theorem dX10_build_72 : decode cX10_build 72 = .ok (.putfield 158, 3) := by decide +kernel
theorem dX10_build_75 : decode cX10_build 75 = .ok (.aload_n 3, 1) := by decide +kernel
theorem dX10_build_76 : decode cX10_build 76 = .ok (.iconst 0, 1) := by decide +kernel
theorem dX10_build_77 : decode cX10_build 77 = .ok (.aload_n 0, 1) := by decide +kernel
theorem dX10_build_78 : decode cX10_build 78 = .ok (.getfield 47, 3) := by decide +kernel
theorem dX10_build_81 : decode cX10_build 81 = .ok (.getfield 264, 3) := by decide +kernel
theorem dX10_build_84 : decode cX10_build 84 = .ok (.iconst 0, 1) := by decide +kernel
theorem dX10_build_85 : decode cX10_build 85 = .ok (.iaload, 1) := by decide +kernel
theorem dX10_build_86 : decode cX10_build 86 = .ok (.aload_n 0, 1) := by decide +kernel
theorem dX10_build_87 : decode cX10_build 87 = .ok (.getfield 47, 3) := by decide +kernel
theorem dX10_build_90 : decode cX10_build 90 = .ok (.getfield 264, 3) := by decide +kernel
theorem dX10_build_93 : decode cX10_build 93 = .ok (.iconst 1, 1) := by decide +kernel
theorem dX10_build_94 : decode cX10_build 94 = .ok (.iaload, 1) := by decide +kernel
theorem dX10_build_95 : decode cX10_build 95 = .ok (.invokevirtual 307, 3) := by decide +kernel
theorem dX10_build_98 : decode cX10_build 98 = .ok (.aload_n 3, 1) := by decide +kernel
theorem dX10_build_99 : decode cX10_build 99 = .ok (.iconst 0, 1) := by decide +kernel
theorem dX10_build_100 : decode cX10_build 100 = .ok (.aload_n 0, 1) := by decide +kernel
theorem dX10_build_101 : decode cX10_build 101 = .ok (.getfield 47, 3) := by decide +kernel
theorem dX10_build_104 : decode cX10_build 104 = .ok (.getfield 264, 3) := by decide +kernel
theorem dX10_build_107 : decode cX10_build 107 = .ok (.iconst 2, 1) := by decide +kernel
theorem dX10_build_108 : decode cX10_build 108 = .ok (.iaload, 1) := by decide +kernel
theorem dX10_build_109 : decode cX10_build 109 = .ok (.aload_n 0, 1) := by decide +kernel
theorem dX10_build_110 : decode cX10_build 110 = .ok (.getfield 47, 3) := by decide +kernel
theorem dX10_build_113 : decode cX10_build 113 = .ok (.getfield 264, 3) := by decide +kernel
theorem dX10_build_116 : decode cX10_build 116 = .ok (.iconst 3, 1) := by decide +kernel
theorem dX10_build_117 : decode cX10_build 117 = .ok (.iaload, 1) := by decide +kernel
theorem dX10_build_118 : decode cX10_build 118 = .ok (.invokevirtual 307, 3) := by decide +kernel
theorem dX10_build_121 : decode cX10_build 121 = .ok (.aload_n 2, 1) := by decide +kernel
theorem dX10_build_122 : decode cX10_build 122 = .ok (.getfield 185, 3) := by decide +kernel
theorem dX10_build_125 : decode cX10_build 125 = .ok (.lconst 0, 1) := by decide +kernel
theorem dX10_build_126 : decode cX10_build 126 = .ok (.lcmp, 1) := by decide +kernel
theorem dX10_build_127 : decode cX10_build 127 = .ok (.ifCond .ge 18, 3) := by decide +kernel
theorem dX10_build_130 : decode cX10_build 130 = .ok (.aload_n 3, 1) := by decide +kernel
theorem dX10_build_131 : decode cX10_build 131 = .ok (.iconst 2, 1) := by decide +kernel
theorem dX10_build_132 : decode cX10_build 132 = .ok (.aload_n 0, 1) := by decide +kernel
theorem dX10_build_133 : decode cX10_build 133 = .ok (.getfield 26, 3) := by decide +kernel
theorem dX10_build_136 : decode cX10_build 136 = .ok (.getfield 178, 3) := by decide +kernel
theorem dX10_build_139 : decode cX10_build 139 = .ok (.iconst 0, 1) := by decide +kernel
theorem dX10_build_140 : decode cX10_build 140 = .ok (.iaload, 1) := by decide +kernel
theorem dX10_build_141 : decode cX10_build 141 = .ok (.iconst 0, 1) := by decide +kernel
theorem dX10_build_142 : decode cX10_build 142 = .ok (.invokevirtual 307, 3) := by decide +kernel
theorem dX10_build_145 : decode cX10_build 145 = .ok (.aload_n 0, 1) := by decide +kernel
theorem dX10_build_146 : decode cX10_build 146 = .ok (.getfield 26, 3) := by decide +kernel
theorem dX10_build_149 : decode cX10_build 149 = .ok (.getfield 310, 3) := by decide +kernel
theorem dX10_build_152 : decode cX10_build 152 = .ok (.iload_n 1, 1) := by decide +kernel
theorem dX10_build_153 : decode cX10_build 153 = .ok (.iconst 0, 1) := by decide +kernel
theorem dX10_build_154 : decode cX10_build 154 = .ok (.iastore, 1) := by decide +kernel
theorem dX10_build_155 : decode cX10_build 155 = .ok (.aload_n 3, 1) := by decide +kernel
theorem dX10_build_156 : decode cX10_build 156 = .ok (.getfield 158, 3) := by decide +kernel
theorem dX10_build_159 : decode cX10_build 159 = .ok (.ireturn, 1) := by decide +kernel
theorem dX10_addPart_0 : decode cX10_addPart 0 = .ok (.aload_n 0, 1) := by decide +kernel
theorem dX10_addPart_1 : decode cX10_addPart 1 = .ok (.iload_n 1, 1) := by decide +kernel
theorem dX10_addPart_2 : decode cX10_addPart 2 = .ok (.invokevirtual 140, 3) := by decide +kernel
theorem dX10_addPart_5 : decode cX10_addPart 5 = .ok (.iload_n 2, 1) := by decide +kernel
theorem dX10_addPart_6 : decode cX10_addPart 6 = .ok (.iconst 0, 1) := by decide +kernel
theorem dX10_addPart_7 : decode cX10_addPart 7 = .ok (.iconst 2, 1) := by decide +kernel
theorem dX10_addPart_8 : decode cX10_addPart 8 = .ok (.invokestatic 117, 3) := by decide +kernel
theorem dX10_addPart_11 : decode cX10_addPart 11 = .ok (.iload_n 3, 1) := by decide +kernel
theorem dX10_addPart_12 : decode cX10_addPart 12 = .ok (.bipush 8, 2) := by decide +kernel
theorem dX10_addPart_14 : decode cX10_addPart 14 = .ok (.bipush 100, 2) := by decide +kernel
theorem dX10_addPart_16 : decode cX10_addPart 16 = .ok (.invokestatic 117, 3) := by decide +kernel
theorem dX10_addPart_19 : decode cX10_addPart 19 = .ok (.iload_n 2, 1) := by decide +kernel
theorem dX10_addPart_20 : decode cX10_addPart 20 = .ok (.iconst 2, 1) := by decide +kernel
theorem dX10_addPart_21 : decode cX10_addPart 21 = .ok (.if_icmp .ne 13, 3) := by decide +kernel
theorem dX10_addPart_24 : decode cX10_addPart 24 = .ok (.iload 4, 2) := by decide +kernel
theorem dX10_addPart_26 : decode cX10_addPart 26 = .ok (.iconst 0, 1) := by decide +kernel
theorem dX10_addPart_27 : decode cX10_addPart 27 = .ok (.iconst 0, 1) := by decide +kernel
theorem dX10_addPart_28 : decode cX10_addPart 28 = .ok (.invokestatic 117, 3) := by decide +kernel
theorem dX10_addPart_31 : decode cX10_addPart 31 = .ok (.goto 12, 3) := by decide +kernel
theorem dX10_addPart_34 : decode cX10_addPart 34 = .ok (.iload 4, 2) := by decide +kernel
theorem dX10_addPart_36 : decode cX10_addPart 36 = .ok (.bipush 8, 2) := by decide +kernel
theorem dX10_addPart_38 : decode cX10_addPart 38 = .ok (.bipush 100, 2) := by decide +kernel
theorem dX10_addPart_40 : decode cX10_addPart 40 = .ok (.invokestatic 117, 3) := by decide +kernel
theorem dX10_addPart_43 : decode cX10_addPart 43 = .ok (.aload_n 0, 1) := by decide +kernel
theorem dX10_addPart_44 : decode cX10_addPart 44 = .ok (.getfield 26, 3) := by decide +kernel
theorem dX10_addPart_47 : decode cX10_addPart 47 = .ok (.getfield 154, 3) := by decide +kernel
theorem dX10_addPart_50 : decode cX10_addPart 50 = .ok (.iload_n 1, 1) := by decide +kernel
theorem dX10_addPart_51 : decode cX10_addPart 51 = .ok (.aaload, 1) := by decide +kernel
theorem dX10_addPart_52 : decode cX10_addPart 52 = .ok (.astore 5, 2) := by decide +kernel
theorem dX10_addPart_54 : decode cX10_addPart 54 = .ok (.aload 5, 2) := by decide +kernel
theorem dX10_addPart_56 : decode cX10_addPart 56 = .ok (.iload_n 2, 1) := by decide +kernel
theorem dX10_addPart_57 : decode cX10_addPart 57 = .ok (.invokevirtual 313, 3) := by decide +kernel
theorem dX10_addPart_60 : decode cX10_addPart 60 = .ok (.ifCond .ne 14, 3) := by decide +kernel
theorem dX10_addPart_63 : decode cX10_addPart 63 = .ok (.new 299, 3) := by decide +kernel
theorem dX10_addPart_66 : decode cX10_addPart 66 = .ok (.dup, 1) := by decide +kernel
theorem dX10_addPart_67 : decode cX10_addPart 67 = .ok (.ldc_w 316, 3) := by decide +kernel
theorem dX10_addPart_70 : decode cX10_addPart 70 = .ok (.invokespecial 303, 3) := by decide +kernel
theorem dX10_addPart_73 : decode cX10_addPart 73 = .ok (.athrow, 1) := by decide +kernel
theorem dX10_addPart_74 : decode cX10_addPart 74 = .ok (.aload_n 0, 1) := by decide +kernel
theorem dX10_addPart_75 : decode cX10_addPart 75 = .ok (.getfield 33, 3) := by decide +kernel
theorem dX10_addPart_78 : decode cX10_addPart 78 = .ok (.aload_n 0, 1) := by decide +kernel
theorem dX10_addPart_79 : decode cX10_addPart 79 = .ok (.getfield 26, 3) := by decide +kernel
theorem dX10_addPart_82 : decode cX10_addPart 82 = .ok (.invokevirtual 304, 3) := by decide +kernel
theorem dX10_addPart_85 : decode cX10_addPart 85 = .ok (.aload 5, 2) := by decide +kernel
theorem dX10_addPart_87 : decode cX10_addPart 87 = .ok (.iload_n 2, 1) := by decide +kernel
theorem dX10_addPart_88 : decode cX10_addPart 88 = .ok (.iload_n 3, 1) := by decide +kernel
theorem dX10_addPart_89 : decode cX10_addPart 89 = .ok (.iload 4, 2) := by decide +kernel
theorem dX10_addPart_91 : decode cX10_addPart 91 = .ok (.invokevirtual 307, 3) := by decide +kernel
theorem dX10_addPart_94 : decode cX10_addPart 94 = .ok (.aload_n 0, 1) := by decide +kernel
theorem dX10_addPart_95 : decode cX10_addPart 95 = .ok (.getfield 26, 3) := by decide +kernel
theorem dX10_addPart_98 : decode cX10_addPart 98 = .ok (.getfield 310, 3) := by decide +kernel
theorem dX10_addPart_101 : decode cX10_addPart 101 = .ok (.iload_n 1, 1) := by decide +kernel
theorem dX10_addPart_102 : decode cX10_addPart 102 = .ok (.iconst 0, 1) := by decide +kernel
theorem dX10_addPart_103 : decode cX10_addPart 103 = .ok (.iastore, 1) := by decide +kernel
theorem dX10_addPart_104 : decode cX10_addPart 104 = .ok (.aload 5, 2) := by decide +kernel
theorem dX10_addPart_106 : decode cX10_addPart 106 = .ok (.getfield 158, 3) := by decide +kernel
theorem dX10_addPart_109 : decode cX10_addPart 109 = .ok (.ireturn, 1) := by decide +kernel
theorem dX10_removePart_0 : decode cX10_removePart 0 = .ok (.aload_n 0, 1) := by decide +kernel
theorem dX10_removePart_1 : decode cX10_removePart 1 = .ok (.iload_n 1, 1) := by decide +kernel
theorem dX10_removePart_2 : decode cX10_removePart 2 = .ok (.invokevirtual 140, 3) := by decide +kernel
theorem dX10_removePart_5 : decode cX10_removePart 5 = .ok (.aload_n 0, 1) := by decide +kernel
theorem dX10_removePart_6 : decode cX10_removePart 6 = .ok (.getfield 26, 3) := by decide +kernel
theorem dX10_removePart_9 : decode cX10_removePart 9 = .ok (.getfield 154, 3) := by decide +kernel
theorem dX10_removePart_12 : decode cX10_removePart 12 = .ok (.iload_n 1, 1) := by decide +kernel
theorem dX10_removePart_13 : decode cX10_removePart 13 = .ok (.aaload, 1) := by decide +kernel
theorem dX10_removePart_14 : decode cX10_removePart 14 = .ok (.astore_n 2, 1) := by decide +kernel
theorem dX10_removePart_15 : decode cX10_removePart 15 = .ok (.aload_n 2, 1) := by decide +kernel
theorem dX10_removePart_16 : decode cX10_removePart 16 = .ok (.getfield 158, 3) := by decide +kernel
theorem dX10_removePart_19 : decode cX10_removePart 19 = .ok (.ifCond .ne 14, 3) := by decide +kernel
theorem dX10_removePart_22 : decode cX10_removePart 22 = .ok (.new 299, 3) := by decide +kernel
theorem dX10_removePart_25 : decode cX10_removePart 25 = .ok (.dup, 1) := by decide +kernel
theorem dX10_removePart_26 : decode cX10_removePart 26 = .ok (.ldc_w 318, 3) := by decide +kernel
theorem dX10_removePart_29 : decode cX10_removePart 29 = .ok (.invokespecial 303, 3) := by decide +kernel
theorem dX10_removePart_32 : decode cX10_removePart 32 = .ok (.athrow, 1) := by decide +kernel
theorem dX10_removePart_33 : decode cX10_removePart 33 = .ok (.aload_n 0, 1) := by decide +kernel
theorem dX10_removePart_34 : decode cX10_removePart 34 = .ok (.getfield 33, 3) := by decide +kernel
theorem dX10_removePart_37 : decode cX10_removePart 37 = .ok (.aload_n 0, 1) := by decide +kernel
theorem dX10_removePart_38 : decode cX10_removePart 38 = .ok (.getfield 26, 3) := by decide +kernel
theorem dX10_removePart_41 : decode cX10_removePart 41 = .ok (.invokevirtual 304, 3) := by decide +kernel
theorem dX10_removePart_44 : decode cX10_removePart 44 = .ok (.aload_n 2, 1) := by decide +kernel
theorem dX10_removePart_45 : decode cX10_removePart 45 = .ok (.dup, 1) := by decide +kernel
theorem dX10_removePart_46 : decode cX10_removePart 46 = .ok (.getfield 158, 3) := by decide +kernel
theorem dX10_removePart_49 : decode cX10_removePart 49 = .ok (.iconst 1, 1) := by decide +kernel
theorem dX10_removePart_50 : decode cX10_removePart 50 = .ok (.isub, 1) := by decide +kernel
theorem dX10_removePart_51 : decode cX10_removePart 51 = .ok (.putfield 158, 3) := by decide +kernel
theorem dX10_removePart_54 : decode cX10_removePart 54 = .ok (.aload_n 0, 1) := by decide +kernel
theorem dX10_removePart_55 : decode cX10_removePart 55 = .ok (.getfield 26, 3) := by decide +kernel
theorem dX10_removePart_58 : decode cX10_removePart 58 = .ok (.getfield 310, 3) := by decide +kernel
theorem dX10_removePart_61 : decode cX10_removePart 61 = .ok (.iload_n 1, 1) := by decide +kernel
theorem dX10_removePart_62 : decode cX10_removePart 62 = .ok (.iconst 0, 1) := by decide +kernel
theorem dX10_removePart_63 : decode cX10_removePart 63 = .ok (.iastore, 1) := by decide +kernel
theorem dX10_removePart_64 : decode cX10_removePart 64 = .ok (.aload_n 2, 1) := by decide +kernel
theorem dX10_removePart_65 : decode cX10_removePart 65 = .ok (.getfield 158, 3) := by decide +kernel
theorem dX10_removePart_68 : decode cX10_removePart 68 = .ok (.ireturn, 1) := by decide +kernel
theorem dX10_addStock_0 : decode cX10_addStock 0 = .ok (.iload_n 1, 1) := by decide +kernel
theorem dX10_addStock_1 : decode cX10_addStock 1 = .ok (.bipush 8, 2) := by decide +kernel
theorem dX10_addStock_3 : decode cX10_addStock 3 = .ok (.bipush 100, 2) := by decide +kernel
theorem dX10_addStock_5 : decode cX10_addStock 5 = .ok (.invokestatic 117, 3) := by decide +kernel
theorem dX10_addStock_8 : decode cX10_addStock 8 = .ok (.aload_n 0, 1) := by decide +kernel
theorem dX10_addStock_9 : decode cX10_addStock 9 = .ok (.getfield 26, 3) := by decide +kernel
theorem dX10_addStock_12 : decode cX10_addStock 12 = .ok (.iload_n 1, 1) := by decide +kernel
theorem dX10_addStock_13 : decode cX10_addStock 13 = .ok (.invokevirtual 320, 3) := by decide +kernel
theorem dX10_addStock_16 : decode cX10_addStock 16 = .ok (.ifCond .ne 14, 3) := by decide +kernel
theorem dX10_addStock_19 : decode cX10_addStock 19 = .ok (.new 299, 3) := by decide +kernel
theorem dX10_addStock_22 : decode cX10_addStock 22 = .ok (.dup, 1) := by decide +kernel
theorem dX10_addStock_23 : decode cX10_addStock 23 = .ok (.ldc_w 323, 3) := by decide +kernel
theorem dX10_addStock_26 : decode cX10_addStock 26 = .ok (.invokespecial 303, 3) := by decide +kernel
theorem dX10_addStock_29 : decode cX10_addStock 29 = .ok (.athrow, 1) := by decide +kernel
theorem dX10_addStock_30 : decode cX10_addStock 30 = .ok (.aload_n 0, 1) := by decide +kernel
theorem dX10_addStock_31 : decode cX10_addStock 31 = .ok (.getfield 33, 3) := by decide +kernel
theorem dX10_addStock_34 : decode cX10_addStock 34 = .ok (.aload_n 0, 1) := by decide +kernel
theorem dX10_addStock_35 : decode cX10_addStock 35 = .ok (.getfield 26, 3) := by decide +kernel
theorem dX10_addStock_38 : decode cX10_addStock 38 = .ok (.invokevirtual 304, 3) := by decide +kernel
theorem dX10_addStock_41 : decode cX10_addStock 41 = .ok (.aload_n 0, 1) := by decide +kernel
theorem dX10_addStock_42 : decode cX10_addStock 42 = .ok (.getfield 26, 3) := by decide +kernel
theorem dX10_addStock_45 : decode cX10_addStock 45 = .ok (.iload_n 1, 1) := by decide +kernel
theorem dX10_addStock_46 : decode cX10_addStock 46 = .ok (.invokevirtual 325, 3) := by decide +kernel
theorem dX10_addStock_49 : decode cX10_addStock 49 = .ok (.aload_n 0, 1) := by decide +kernel
theorem dX10_addStock_50 : decode cX10_addStock 50 = .ok (.getfield 26, 3) := by decide +kernel
theorem dX10_addStock_53 : decode cX10_addStock 53 = .ok (.getfield 121, 3) := by decide +kernel
theorem dX10_addStock_56 : decode cX10_addStock 56 = .ok (.ireturn, 1) := by decide +kernel
theorem dX10_removeStock_0 : decode cX10_removeStock 0 = .ok (.aload_n 0, 1) := by decide +kernel
theorem dX10_removeStock_1 : decode cX10_removeStock 1 = .ok (.getfield 26, 3) := by decide +kernel
theorem dX10_removeStock_4 : decode cX10_removeStock 4 = .ok (.iload_n 1, 1) := by decide +kernel
theorem dX10_removeStock_5 : decode cX10_removeStock 5 = .ok (.invokevirtual 289, 3) := by decide +kernel
theorem dX10_removeStock_8 : decode cX10_removeStock 8 = .ok (.ifCond .ne 5, 3) := by decide +kernel
theorem dX10_removeStock_11 : decode cX10_removeStock 11 = .ok (.iconst 0, 1) := by decide +kernel
theorem dX10_removeStock_12 : decode cX10_removeStock 12 = .ok (.ireturn, 1) := by decide +kernel
theorem dX10_removeStock_13 : decode cX10_removeStock 13 = .ok (.aload_n 0, 1) := by decide +kernel
theorem dX10_removeStock_14 : decode cX10_removeStock 14 = .ok (.getfield 33, 3) := by decide +kernel
theorem dX10_removeStock_17 : decode cX10_removeStock 17 = .ok (.aload_n 0, 1) := by decide +kernel
theorem dX10_removeStock_18 : decode cX10_removeStock 18 = .ok (.getfield 26, 3) := by decide +kernel
theorem dX10_removeStock_21 : decode cX10_removeStock 21 = .ok (.invokevirtual 304, 3) := by decide +kernel
theorem dX10_removeStock_24 : decode cX10_removeStock 24 = .ok (.aload_n 0, 1) := by decide +kernel
theorem dX10_removeStock_25 : decode cX10_removeStock 25 = .ok (.getfield 26, 3) := by decide +kernel
theorem dX10_removeStock_28 : decode cX10_removeStock 28 = .ok (.iload_n 1, 1) := by decide +kernel
theorem dX10_removeStock_29 : decode cX10_removeStock 29 = .ok (.invokevirtual 328, 3) := by decide +kernel
theorem dX10_removeStock_32 : decode cX10_removeStock 32 = .ok (.iconst 1, 1) := by decide +kernel
theorem dX10_removeStock_33 : decode cX10_removeStock 33 = .ok (.ireturn, 1) := by decide +kernel
theorem dX10_setSlack_0 : decode cX10_setSlack 0 = .ok (.iload_n 1, 1) := by decide +kernel
theorem dX10_setSlack_1 : decode cX10_setSlack 1 = .ok (.iconst 0, 1) := by decide +kernel
theorem dX10_setSlack_2 : decode cX10_setSlack 2 = .ok (.sipush 999, 3) := by decide +kernel
theorem dX10_setSlack_5 : decode cX10_setSlack 5 = .ok (.invokestatic 117, 3) := by decide +kernel
theorem dX10_setSlack_8 : decode cX10_setSlack 8 = .ok (.aload_n 0, 1) := by decide +kernel
theorem dX10_setSlack_9 : decode cX10_setSlack 9 = .ok (.getfield 26, 3) := by decide +kernel
theorem dX10_setSlack_12 : decode cX10_setSlack 12 = .ok (.getfield 127, 3) := by decide +kernel
theorem dX10_setSlack_15 : decode cX10_setSlack 15 = .ok (.istore_n 2, 1) := by decide +kernel
theorem dX10_setSlack_16 : decode cX10_setSlack 16 = .ok (.aload_n 0, 1) := by decide +kernel
theorem dX10_setSlack_17 : decode cX10_setSlack 17 = .ok (.getfield 33, 3) := by decide +kernel
theorem dX10_setSlack_20 : decode cX10_setSlack 20 = .ok (.aload_n 0, 1) := by decide +kernel
theorem dX10_setSlack_21 : decode cX10_setSlack 21 = .ok (.getfield 26, 3) := by decide +kernel
theorem dX10_setSlack_24 : decode cX10_setSlack 24 = .ok (.invokevirtual 304, 3) := by decide +kernel
theorem dX10_setSlack_27 : decode cX10_setSlack 27 = .ok (.aload_n 0, 1) := by decide +kernel
theorem dX10_setSlack_28 : decode cX10_setSlack 28 = .ok (.getfield 26, 3) := by decide +kernel
theorem dX10_setSlack_31 : decode cX10_setSlack 31 = .ok (.iload_n 1, 1) := by decide +kernel
theorem dX10_setSlack_32 : decode cX10_setSlack 32 = .ok (.putfield 127, 3) := by decide +kernel
theorem dX10_setSlack_35 : decode cX10_setSlack 35 = .ok (.aload_n 0, 1) := by decide +kernel
theorem dX10_setSlack_36 : decode cX10_setSlack 36 = .ok (.getfield 26, 3) := by decide +kernel
theorem dX10_setSlack_39 : decode cX10_setSlack 39 = .ok (.invokevirtual 331, 3) := by decide +kernel
theorem dX10_setSlack_42 : decode cX10_setSlack 42 = .ok (.iload_n 2, 1) := by decide +kernel
theorem dX10_setSlack_43 : decode cX10_setSlack 43 = .ok (.ireturn, 1) := by decide +kernel
theorem dX10_crank_0 : decode cX10_crank 0 = .ok (.iload_n 1, 1) := by decide +kernel
theorem dX10_crank_1 : decode cX10_crank 1 = .ok (.iconst 0, 1) := by decide +kernel
theorem dX10_crank_2 : decode cX10_crank 2 = .ok (.ldc 199, 2) := by decide +kernel
theorem dX10_crank_4 : decode cX10_crank 4 = .ok (.invokestatic 117, 3) := by decide +kernel
theorem dX10_crank_7 : decode cX10_crank 7 = .ok (.aload_n 0, 1) := by decide +kernel
theorem dX10_crank_8 : decode cX10_crank 8 = .ok (.getfield 26, 3) := by decide +kernel
theorem dX10_crank_11 : decode cX10_crank 11 = .ok (.getfield 130, 3) := by decide +kernel
theorem dX10_crank_14 : decode cX10_crank 14 = .ok (.istore_n 2, 1) := by decide +kernel
theorem dX10_crank_15 : decode cX10_crank 15 = .ok (.aload_n 0, 1) := by decide +kernel
theorem dX10_crank_16 : decode cX10_crank 16 = .ok (.getfield 33, 3) := by decide +kernel
theorem dX10_crank_19 : decode cX10_crank 19 = .ok (.aload_n 0, 1) := by decide +kernel
theorem dX10_crank_20 : decode cX10_crank 20 = .ok (.getfield 26, 3) := by decide +kernel
theorem dX10_crank_23 : decode cX10_crank 23 = .ok (.invokevirtual 304, 3) := by decide +kernel
theorem dX10_crank_26 : decode cX10_crank 26 = .ok (.iconst 0, 1) := by decide +kernel
theorem dX10_crank_27 : decode cX10_crank 27 = .ok (.istore_n 3, 1) := by decide +kernel
theorem dX10_crank_28 : decode cX10_crank 28 = .ok (.iload_n 3, 1) := by decide +kernel
theorem dX10_crank_29 : decode cX10_crank 29 = .ok (.aload_n 0, 1) := by decide +kernel
theorem dX10_crank_30 : decode cX10_crank 30 = .ok (.getfield 19, 3) := by decide +kernel
theorem dX10_crank_33 : decode cX10_crank 33 = .ok (.getfield 108, 3) := by decide +kernel
theorem dX10_crank_36 : decode cX10_crank 36 = .ok (.if_icmp .ge 89, 3) := by decide +kernel
theorem dX10_crank_39 : decode cX10_crank 39 = .ok (.aload_n 0, 1) := by decide +kernel
theorem dX10_crank_40 : decode cX10_crank 40 = .ok (.iload_n 3, 1) := by decide +kernel
theorem dX10_crank_41 : decode cX10_crank 41 = .ok (.aload_n 0, 1) := by decide +kernel
theorem dX10_crank_42 : decode cX10_crank 42 = .ok (.getfield 54, 3) := by decide +kernel
theorem dX10_crank_45 : decode cX10_crank 45 = .ok (.invokevirtual 181, 3) := by decide +kernel
theorem dX10_crank_48 : decode cX10_crank 48 = .ok (.astore 4, 2) := by decide +kernel
theorem dX10_crank_50 : decode cX10_crank 50 = .ok (.aload 4, 2) := by decide +kernel
theorem dX10_crank_52 : decode cX10_crank 52 = .ok (.iload_n 1, 1) := by decide +kernel
theorem dX10_crank_53 : decode cX10_crank 53 = .ok (.invokevirtual 334, 3) := by decide +kernel
theorem dX10_crank_56 : decode cX10_crank 56 = .ok (.aload 4, 2) := by decide +kernel
theorem dX10_crank_58 : decode cX10_crank 58 = .ok (.iload_n 2, 1) := by decide +kernel
theorem dX10_crank_59 : decode cX10_crank 59 = .ok (.invokevirtual 334, 3) := by decide +kernel
theorem dX10_crank_62 : decode cX10_crank 62 = .ok (.lsub, 1) := by decide +kernel
theorem dX10_crank_63 : decode cX10_crank 63 = .ok (.lstore 5, 2) := by decide +kernel
theorem dX10_crank_65 : decode cX10_crank 65 = .ok (.aload_n 0, 1) := by decide +kernel
theorem dX10_crank_66 : decode cX10_crank 66 = .ok (.getfield 26, 3) := by decide +kernel
theorem dX10_crank_69 : decode cX10_crank 69 = .ok (.getfield 154, 3) := by decide +kernel
theorem dX10_crank_72 : decode cX10_crank 72 = .ok (.iload_n 3, 1) := by decide +kernel
theorem dX10_crank_73 : decode cX10_crank 73 = .ok (.aaload, 1) := by decide +kernel
theorem dX10_crank_74 : decode cX10_crank 74 = .ok (.aload_n 0, 1) := by decide +kernel
theorem dX10_crank_75 : decode cX10_crank 75 = .ok (.getfield 26, 3) := by decide +kernel
theorem dX10_crank_78 : decode cX10_crank 78 = .ok (.getfield 127, 3) := by decide +kernel
theorem dX10_crank_81 : decode cX10_crank 81 = .ok (.invokevirtual 337, 3) := by decide +kernel
theorem dX10_crank_84 : decode cX10_crank 84 = .ok (.istore 7, 2) := by decide +kernel
theorem dX10_crank_86 : decode cX10_crank 86 = .ok (.aload_n 0, 1) := by decide +kernel
theorem dX10_crank_87 : decode cX10_crank 87 = .ok (.getfield 26, 3) := by decide +kernel
theorem dX10_crank_90 : decode cX10_crank 90 = .ok (.getfield 310, 3) := by decide +kernel
theorem dX10_crank_93 : decode cX10_crank 93 = .ok (.iload_n 3, 1) := by decide +kernel
theorem dX10_crank_94 : decode cX10_crank 94 = .ok (.lconst 0, 1) := by decide +kernel
theorem dX10_crank_95 : decode cX10_crank 95 = .ok (.iload 7, 2) := by decide +kernel
theorem dX10_crank_97 : decode cX10_crank 97 = .ok (.i2l, 1) := by decide +kernel
theorem dX10_crank_98 : decode cX10_crank 98 = .ok (.aload_n 0, 1) := by decide +kernel
theorem dX10_crank_99 : decode cX10_crank 99 = .ok (.getfield 26, 3) := by decide +kernel
theorem dX10_crank_102 : decode cX10_crank 102 = .ok (.getfield 310, 3) := by decide +kernel
theorem dX10_crank_105 : decode cX10_crank 105 = .ok (.iload_n 3, 1) := by decide +kernel
theorem dX10_crank_106 : decode cX10_crank 106 = .ok (.iaload, 1) := by decide +kernel
theorem dX10_crank_107 : decode cX10_crank 107 = .ok (.i2l, 1) := by decide +kernel
theorem dX10_crank_108 : decode cX10_crank 108 = .ok (.lload 5, 2) := by decide +kernel
theorem dX10_crank_110 : decode cX10_crank 110 = .ok (.lsub, 1) := by decide +kernel
theorem dX10_crank_111 : decode cX10_crank 111 = .ok (.invokestatic 340, 3) := by decide +kernel
theorem dX10_crank_114 : decode cX10_crank 114 = .ok (.invokestatic 250, 3) := by decide +kernel
theorem dX10_crank_117 : decode cX10_crank 117 = .ok (.l2i, 1) := by decide +kernel
theorem dX10_crank_118 : decode cX10_crank 118 = .ok (.iastore, 1) := by decide +kernel
theorem dX10_crank_119 : decode cX10_crank 119 = .ok (.iinc 3 1, 3) := by decide +kernel
theorem dX10_crank_122 : decode cX10_crank 122 = .ok (.goto (-94), 3) := by decide +kernel
theorem dX10_crank_125 : decode cX10_crank 125 = .ok (.aload_n 0, 1) := by decide +kernel
theorem dX10_crank_126 : decode cX10_crank 126 = .ok (.getfield 26, 3) := by decide +kernel
theorem dX10_crank_129 : decode cX10_crank 129 = .ok (.iload_n 1, 1) := by decide +kernel
theorem dX10_crank_130 : decode cX10_crank 130 = .ok (.putfield 130, 3) := by decide +kernel
theorem dX10_crank_133 : decode cX10_crank 133 = .ok (.iload_n 2, 1) := by decide +kernel
theorem dX10_crank_134 : decode cX10_crank 134 = .ok (.ireturn, 1) := by decide +kernel
theorem dX10_improve_0 : decode cX10_improve 0 = .ok (.aload_n 0, 1) := by decide +kernel
theorem dX10_improve_1 : decode cX10_improve 1 = .ok (.iload_n 1, 1) := by decide +kernel
theorem dX10_improve_2 : decode cX10_improve 2 = .ok (.invokevirtual 140, 3) := by decide +kernel
theorem dX10_improve_5 : decode cX10_improve 5 = .ok (.aload_n 0, 1) := by decide +kernel
theorem dX10_improve_6 : decode cX10_improve 6 = .ok (.getfield 26, 3) := by decide +kernel
theorem dX10_improve_9 : decode cX10_improve 9 = .ok (.getfield 154, 3) := by decide +kernel
theorem dX10_improve_12 : decode cX10_improve 12 = .ok (.iload_n 1, 1) := by decide +kernel
theorem dX10_improve_13 : decode cX10_improve 13 = .ok (.aaload, 1) := by decide +kernel
theorem dX10_improve_14 : decode cX10_improve 14 = .ok (.astore_n 2, 1) := by decide +kernel
theorem dX10_improve_15 : decode cX10_improve 15 = .ok (.aload_n 0, 1) := by decide +kernel
theorem dX10_improve_16 : decode cX10_improve 16 = .ok (.getfield 64, 3) := by decide +kernel
theorem dX10_improve_19 : decode cX10_improve 19 = .ok (.aload_n 0, 1) := by decide +kernel
theorem dX10_improve_20 : decode cX10_improve 20 = .ok (.iload_n 1, 1) := by decide +kernel
theorem dX10_improve_21 : decode cX10_improve 21 = .ok (.invokevirtual 210, 3) := by decide +kernel
theorem dX10_improve_24 : decode cX10_improve 24 = .ok (.invokevirtual 343, 3) := by decide +kernel
theorem dX10_improve_27 : decode cX10_improve 27 = .ok (.iconst 0, 1) := by decide +kernel
theorem dX10_improve_28 : decode cX10_improve 28 = .ok (.istore_n 3, 1) := by decide +kernel
theorem dX10_improve_29 : decode cX10_improve 29 = .ok (.iconst 0, 1) := by decide +kernel
theorem dX10_improve_30 : decode cX10_improve 30 = .ok (.istore 4, 2) := by decide +kernel
theorem dX10_improve_32 : decode cX10_improve 32 = .ok (.iconst (-1), 1) := by decide +kernel
theorem dX10_improve_33 : decode cX10_improve 33 = .ok (.istore 5, 2) := by decide +kernel
theorem dX10_improve_35 : decode cX10_improve 35 = .ok (.iconst 0, 1) := by decide +kernel
theorem dX10_improve_36 : decode cX10_improve 36 = .ok (.istore 6, 2) := by decide +kernel
theorem dX10_improve_38 : decode cX10_improve 38 = .ok (.iload 6, 2) := by decide +kernel
theorem dX10_improve_40 : decode cX10_improve 40 = .ok (.aload_n 2, 1) := by decide +kernel
theorem dX10_improve_41 : decode cX10_improve 41 = .ok (.getfield 158, 3) := by decide +kernel
theorem dX10_improve_44 : decode cX10_improve 44 = .ok (.if_icmp .ge 60, 3) := by decide +kernel
theorem dX10_improve_47 : decode cX10_improve 47 = .ok (.iconst 1, 1) := by decide +kernel
theorem dX10_improve_48 : decode cX10_improve 48 = .ok (.istore 7, 2) := by decide +kernel
theorem dX10_improve_50 : decode cX10_improve 50 = .ok (.iload 7, 2) := by decide +kernel
theorem dX10_improve_52 : decode cX10_improve 52 = .ok (.iconst 2, 1) := by decide +kernel
theorem dX10_improve_53 : decode cX10_improve 53 = .ok (.if_icmp .gt 45, 3) := by decide +kernel
theorem dX10_improve_56 : decode cX10_improve 56 = .ok (.aload_n 2, 1) := by decide +kernel
theorem dX10_improve_57 : decode cX10_improve 57 = .ok (.iload 6, 2) := by decide +kernel
theorem dX10_improve_59 : decode cX10_improve 59 = .ok (.invokevirtual 293, 3) := by decide +kernel
theorem dX10_improve_62 : decode cX10_improve 62 = .ok (.ifCond .eq 36, 3) := by decide +kernel
theorem dX10_improve_65 : decode cX10_improve 65 = .ok (.aload_n 0, 1) := by decide +kernel
theorem dX10_improve_66 : decode cX10_improve 66 = .ok (.iload_n 1, 1) := by decide +kernel
theorem dX10_improve_67 : decode cX10_improve 67 = .ok (.iload 6, 2) := by decide +kernel
theorem dX10_improve_69 : decode cX10_improve 69 = .ok (.iload 7, 2) := by decide +kernel
theorem dX10_improve_71 : decode cX10_improve 71 = .ok (.invokevirtual 346, 3) := by decide +kernel
theorem dX10_improve_74 : decode cX10_improve 74 = .ok (.istore 8, 2) := by decide +kernel
theorem dX10_improve_76 : decode cX10_improve 76 = .ok (.iload 8, 2) := by decide +kernel
theorem dX10_improve_78 : decode cX10_improve 78 = .ok (.ifCond .lt 14, 3) := by decide +kernel
theorem dX10_improve_81 : decode cX10_improve 81 = .ok (.iload 6, 2) := by decide +kernel
theorem dX10_improve_83 : decode cX10_improve 83 = .ok (.istore_n 3, 1) := by decide +kernel
theorem dX10_improve_84 : decode cX10_improve 84 = .ok (.iload 7, 2) := by decide +kernel
theorem dX10_improve_86 : decode cX10_improve 86 = .ok (.istore 4, 2) := by decide +kernel
theorem dX10_improve_88 : decode cX10_improve 88 = .ok (.iload 8, 2) := by decide +kernel
theorem dX10_improve_90 : decode cX10_improve 90 = .ok (.istore 5, 2) := by decide +kernel
theorem dX10_improve_92 : decode cX10_improve 92 = .ok (.iinc 7 1, 3) := by decide +kernel
theorem dX10_improve_95 : decode cX10_improve 95 = .ok (.goto (-45), 3) := by decide +kernel
theorem dX10_improve_98 : decode cX10_improve 98 = .ok (.iinc 6 1, 3) := by decide +kernel
theorem dX10_improve_101 : decode cX10_improve 101 = .ok (.goto (-63), 3) := by decide +kernel
theorem dX10_improve_104 : decode cX10_improve 104 = .ok (.iload 5, 2) := by decide +kernel
theorem dX10_improve_106 : decode cX10_improve 106 = .ok (.ifCond .ge 5, 3) := by decide +kernel
theorem dX10_improve_109 : decode cX10_improve 109 = .ok (.iconst (-1), 1) := by decide +kernel
theorem dX10_improve_110 : decode cX10_improve 110 = .ok (.ireturn, 1) := by decide +kernel
theorem dX10_improve_111 : decode cX10_improve 111 = .ok (.aload_n 0, 1) := by decide +kernel
theorem dX10_improve_112 : decode cX10_improve 112 = .ok (.getfield 33, 3) := by decide +kernel
theorem dX10_improve_115 : decode cX10_improve 115 = .ok (.aload_n 0, 1) := by decide +kernel
theorem dX10_improve_116 : decode cX10_improve 116 = .ok (.getfield 26, 3) := by decide +kernel
theorem dX10_improve_119 : decode cX10_improve 119 = .ok (.invokevirtual 304, 3) := by decide +kernel
theorem dX10_improve_122 : decode cX10_improve 122 = .ok (.aload_n 2, 1) := by decide +kernel
theorem dX10_improve_123 : decode cX10_improve 123 = .ok (.iload_n 3, 1) := by decide +kernel
theorem dX10_improve_124 : decode cX10_improve 124 = .ok (.iload 4, 2) := by decide +kernel
theorem dX10_improve_126 : decode cX10_improve 126 = .ok (.iload 5, 2) := by decide +kernel
theorem dX10_improve_128 : decode cX10_improve 128 = .ok (.invokevirtual 350, 3) := by decide +kernel
theorem dX10_improve_131 : decode cX10_improve 131 = .ok (.aload_n 0, 1) := by decide +kernel
theorem dX10_improve_132 : decode cX10_improve 132 = .ok (.getfield 26, 3) := by decide +kernel
theorem dX10_improve_135 : decode cX10_improve 135 = .ok (.getfield 310, 3) := by decide +kernel
theorem dX10_improve_138 : decode cX10_improve 138 = .ok (.iload_n 1, 1) := by decide +kernel
theorem dX10_improve_139 : decode cX10_improve 139 = .ok (.iconst 0, 1) := by decide +kernel
theorem dX10_improve_140 : decode cX10_improve 140 = .ok (.iastore, 1) := by decide +kernel
theorem dX10_improve_141 : decode cX10_improve 141 = .ok (.iload 5, 2) := by decide +kernel
theorem dX10_improve_143 : decode cX10_improve 143 = .ok (.ireturn, 1) := by decide +kernel
theorem dX10_swapTrains_0 : decode cX10_swapTrains 0 = .ok (.aload_n 0, 1) := by decide +kernel
theorem dX10_swapTrains_1 : decode cX10_swapTrains 1 = .ok (.iload_n 1, 1) := by decide +kernel
theorem dX10_swapTrains_2 : decode cX10_swapTrains 2 = .ok (.iload_n 2, 1) := by decide +kernel
theorem dX10_swapTrains_3 : decode cX10_swapTrains 3 = .ok (.invokevirtual 353, 3) := by decide +kernel
theorem dX10_swapTrains_6 : decode cX10_swapTrains 6 = .ok (.aload_n 0, 1) := by decide +kernel
theorem dX10_swapTrains_7 : decode cX10_swapTrains 7 = .ok (.getfield 33, 3) := by decide +kernel
theorem dX10_swapTrains_10 : decode cX10_swapTrains 10 = .ok (.aload_n 0, 1) := by decide +kernel
theorem dX10_swapTrains_11 : decode cX10_swapTrains 11 = .ok (.getfield 26, 3) := by decide +kernel
theorem dX10_swapTrains_14 : decode cX10_swapTrains 14 = .ok (.invokevirtual 304, 3) := by decide +kernel
theorem dX10_swapTrains_17 : decode cX10_swapTrains 17 = .ok (.aload_n 0, 1) := by decide +kernel
theorem dX10_swapTrains_18 : decode cX10_swapTrains 18 = .ok (.getfield 70, 3) := by decide +kernel
theorem dX10_swapTrains_21 : decode cX10_swapTrains 21 = .ok (.aload_n 0, 1) := by decide +kernel
theorem dX10_swapTrains_22 : decode cX10_swapTrains 22 = .ok (.getfield 26, 3) := by decide +kernel
theorem dX10_swapTrains_25 : decode cX10_swapTrains 25 = .ok (.getfield 154, 3) := by decide +kernel
theorem dX10_swapTrains_28 : decode cX10_swapTrains 28 = .ok (.iload_n 1, 1) := by decide +kernel
theorem dX10_swapTrains_29 : decode cX10_swapTrains 29 = .ok (.aaload, 1) := by decide +kernel
theorem dX10_swapTrains_30 : decode cX10_swapTrains 30 = .ok (.invokevirtual 356, 3) := by decide +kernel
theorem dX10_swapTrains_33 : decode cX10_swapTrains 33 = .ok (.aload_n 0, 1) := by decide +kernel
theorem dX10_swapTrains_34 : decode cX10_swapTrains 34 = .ok (.getfield 26, 3) := by decide +kernel
theorem dX10_swapTrains_37 : decode cX10_swapTrains 37 = .ok (.getfield 154, 3) := by decide +kernel
theorem dX10_swapTrains_40 : decode cX10_swapTrains 40 = .ok (.iload_n 1, 1) := by decide +kernel
theorem dX10_swapTrains_41 : decode cX10_swapTrains 41 = .ok (.aaload, 1) := by decide +kernel
theorem dX10_swapTrains_42 : decode cX10_swapTrains 42 = .ok (.aload_n 0, 1) := by decide +kernel
theorem dX10_swapTrains_43 : decode cX10_swapTrains 43 = .ok (.getfield 26, 3) := by decide +kernel
theorem dX10_swapTrains_46 : decode cX10_swapTrains 46 = .ok (.getfield 154, 3) := by decide +kernel
theorem dX10_swapTrains_49 : decode cX10_swapTrains 49 = .ok (.iload_n 2, 1) := by decide +kernel
theorem dX10_swapTrains_50 : decode cX10_swapTrains 50 = .ok (.aaload, 1) := by decide +kernel
theorem dX10_swapTrains_51 : decode cX10_swapTrains 51 = .ok (.invokevirtual 356, 3) := by decide +kernel
theorem dX10_swapTrains_54 : decode cX10_swapTrains 54 = .ok (.aload_n 0, 1) := by decide +kernel
theorem dX10_swapTrains_55 : decode cX10_swapTrains 55 = .ok (.getfield 26, 3) := by decide +kernel
theorem dX10_swapTrains_58 : decode cX10_swapTrains 58 = .ok (.getfield 154, 3) := by decide +kernel
theorem dX10_swapTrains_61 : decode cX10_swapTrains 61 = .ok (.iload_n 2, 1) := by decide +kernel
theorem dX10_swapTrains_62 : decode cX10_swapTrains 62 = .ok (.aaload, 1) := by decide +kernel
theorem dX10_swapTrains_63 : decode cX10_swapTrains 63 = .ok (.aload_n 0, 1) := by decide +kernel
theorem dX10_swapTrains_64 : decode cX10_swapTrains 64 = .ok (.getfield 70, 3) := by decide +kernel
theorem dX10_swapTrains_67 : decode cX10_swapTrains 67 = .ok (.invokevirtual 356, 3) := by decide +kernel
theorem dX10_swapTrains_70 : decode cX10_swapTrains 70 = .ok (.aload_n 0, 1) := by decide +kernel
theorem dX10_swapTrains_71 : decode cX10_swapTrains 71 = .ok (.getfield 26, 3) := by decide +kernel
theorem dX10_swapTrains_74 : decode cX10_swapTrains 74 = .ok (.getfield 310, 3) := by decide +kernel
theorem dX10_swapTrains_77 : decode cX10_swapTrains 77 = .ok (.iload_n 1, 1) := by decide +kernel
theorem dX10_swapTrains_78 : decode cX10_swapTrains 78 = .ok (.iconst 0, 1) := by decide +kernel
theorem dX10_swapTrains_79 : decode cX10_swapTrains 79 = .ok (.iastore, 1) := by decide +kernel
theorem dX10_swapTrains_80 : decode cX10_swapTrains 80 = .ok (.aload_n 0, 1) := by decide +kernel
theorem dX10_swapTrains_81 : decode cX10_swapTrains 81 = .ok (.getfield 26, 3) := by decide +kernel
theorem dX10_swapTrains_84 : decode cX10_swapTrains 84 = .ok (.getfield 310, 3) := by decide +kernel
theorem dX10_swapTrains_87 : decode cX10_swapTrains 87 = .ok (.iload_n 2, 1) := by decide +kernel
theorem dX10_swapTrains_88 : decode cX10_swapTrains 88 = .ok (.iconst 0, 1) := by decide +kernel
theorem dX10_swapTrains_89 : decode cX10_swapTrains 89 = .ok (.iastore, 1) := by decide +kernel
theorem dX10_swapTrains_90 : decode cX10_swapTrains 90 = .ok (.aload_n 0, 1) := by decide +kernel
theorem dX10_swapTrains_91 : decode cX10_swapTrains 91 = .ok (.getfield 26, 3) := by decide +kernel
theorem dX10_swapTrains_94 : decode cX10_swapTrains 94 = .ok (.getfield 154, 3) := by decide +kernel
theorem dX10_swapTrains_97 : decode cX10_swapTrains 97 = .ok (.iload_n 1, 1) := by decide +kernel
theorem dX10_swapTrains_98 : decode cX10_swapTrains 98 = .ok (.aaload, 1) := by decide +kernel
theorem dX10_swapTrains_99 : decode cX10_swapTrains 99 = .ok (.getfield 158, 3) := by decide +kernel
theorem dX10_swapTrains_102 : decode cX10_swapTrains 102 = .ok (.ireturn, 1) := by decide +kernel
theorem dX10_copyTrain_0 : decode cX10_copyTrain 0 = .ok (.aload_n 0, 1) := by decide +kernel
theorem dX10_copyTrain_1 : decode cX10_copyTrain 1 = .ok (.iload_n 1, 1) := by decide +kernel
theorem dX10_copyTrain_2 : decode cX10_copyTrain 2 = .ok (.iload_n 2, 1) := by decide +kernel
theorem dX10_copyTrain_3 : decode cX10_copyTrain 3 = .ok (.invokevirtual 353, 3) := by decide +kernel
theorem dX10_copyTrain_6 : decode cX10_copyTrain 6 = .ok (.aload_n 0, 1) := by decide +kernel
theorem dX10_copyTrain_7 : decode cX10_copyTrain 7 = .ok (.getfield 33, 3) := by decide +kernel
theorem dX10_copyTrain_10 : decode cX10_copyTrain 10 = .ok (.aload_n 0, 1) := by decide +kernel
theorem dX10_copyTrain_11 : decode cX10_copyTrain 11 = .ok (.getfield 26, 3) := by decide +kernel
theorem dX10_copyTrain_14 : decode cX10_copyTrain 14 = .ok (.invokevirtual 304, 3) := by decide +kernel
theorem dX10_copyTrain_17 : decode cX10_copyTrain 17 = .ok (.aload_n 0, 1) := by decide +kernel
theorem dX10_copyTrain_18 : decode cX10_copyTrain 18 = .ok (.getfield 26, 3) := by decide +kernel
theorem dX10_copyTrain_21 : decode cX10_copyTrain 21 = .ok (.getfield 154, 3) := by decide +kernel
theorem dX10_copyTrain_24 : decode cX10_copyTrain 24 = .ok (.iload_n 2, 1) := by decide +kernel
theorem dX10_copyTrain_25 : decode cX10_copyTrain 25 = .ok (.aaload, 1) := by decide +kernel
theorem dX10_copyTrain_26 : decode cX10_copyTrain 26 = .ok (.aload_n 0, 1) := by decide +kernel
theorem dX10_copyTrain_27 : decode cX10_copyTrain 27 = .ok (.getfield 26, 3) := by decide +kernel
theorem dX10_copyTrain_30 : decode cX10_copyTrain 30 = .ok (.getfield 154, 3) := by decide +kernel
theorem dX10_copyTrain_33 : decode cX10_copyTrain 33 = .ok (.iload_n 1, 1) := by decide +kernel
theorem dX10_copyTrain_34 : decode cX10_copyTrain 34 = .ok (.aaload, 1) := by decide +kernel
theorem dX10_copyTrain_35 : decode cX10_copyTrain 35 = .ok (.invokevirtual 356, 3) := by decide +kernel
theorem dX10_copyTrain_38 : decode cX10_copyTrain 38 = .ok (.aload_n 0, 1) := by decide +kernel
theorem dX10_copyTrain_39 : decode cX10_copyTrain 39 = .ok (.getfield 26, 3) := by decide +kernel
theorem dX10_copyTrain_42 : decode cX10_copyTrain 42 = .ok (.getfield 310, 3) := by decide +kernel
theorem dX10_copyTrain_45 : decode cX10_copyTrain 45 = .ok (.iload_n 2, 1) := by decide +kernel
theorem dX10_copyTrain_46 : decode cX10_copyTrain 46 = .ok (.iconst 0, 1) := by decide +kernel
theorem dX10_copyTrain_47 : decode cX10_copyTrain 47 = .ok (.iastore, 1) := by decide +kernel
theorem dX10_copyTrain_48 : decode cX10_copyTrain 48 = .ok (.aload_n 0, 1) := by decide +kernel
theorem dX10_copyTrain_49 : decode cX10_copyTrain 49 = .ok (.getfield 26, 3) := by decide +kernel
theorem dX10_copyTrain_52 : decode cX10_copyTrain 52 = .ok (.getfield 154, 3) := by decide +kernel
theorem dX10_copyTrain_55 : decode cX10_copyTrain 55 = .ok (.iload_n 2, 1) := by decide +kernel
theorem dX10_copyTrain_56 : decode cX10_copyTrain 56 = .ok (.aaload, 1) := by decide +kernel
theorem dX10_copyTrain_57 : decode cX10_copyTrain 57 = .ok (.getfield 158, 3) := by decide +kernel
theorem dX10_copyTrain_60 : decode cX10_copyTrain 60 = .ok (.ireturn, 1) := by decide +kernel
theorem dX10_undo_0 : decode cX10_undo 0 = .ok (.aload_n 0, 1) := by decide +kernel
theorem dX10_undo_1 : decode cX10_undo 1 = .ok (.getfield 33, 3) := by decide +kernel
theorem dX10_undo_4 : decode cX10_undo 4 = .ok (.aload_n 0, 1) := by decide +kernel
theorem dX10_undo_5 : decode cX10_undo 5 = .ok (.getfield 26, 3) := by decide +kernel
theorem dX10_undo_8 : decode cX10_undo 8 = .ok (.invokevirtual 359, 3) := by decide +kernel
theorem dX10_undo_11 : decode cX10_undo 11 = .ok (.ireturn, 1) := by decide +kernel
theorem dX10_saveState_0 : decode cX10_saveState 0 = .ok (.aload_n 0, 1) := by decide +kernel
theorem dX10_saveState_1 : decode cX10_saveState 1 = .ok (.getfield 33, 3) := by decide +kernel
theorem dX10_saveState_4 : decode cX10_saveState 4 = .ok (.aload_n 0, 1) := by decide +kernel
theorem dX10_saveState_5 : decode cX10_saveState 5 = .ok (.getfield 26, 3) := by decide +kernel
theorem dX10_saveState_8 : decode cX10_saveState 8 = .ok (.invokevirtual 363, 3) := by decide +kernel
theorem dX10_saveState_11 : decode cX10_saveState 11 = .ok (.aload_n 0, 1) := by decide +kernel
theorem dX10_saveState_12 : decode cX10_saveState 12 = .ok (.getfield 26, 3) := by decide +kernel
theorem dX10_saveState_15 : decode cX10_saveState 15 = .ok (.getfield 130, 3) := by decide +kernel
theorem dX10_saveState_18 : decode cX10_saveState 18 = .ok (.ireturn, 1) := by decide +kernel
theorem dX10_restoreState_0 : decode cX10_restoreState 0 = .ok (.aload_n 0, 1) := by decide +kernel
theorem dX10_restoreState_1 : decode cX10_restoreState 1 = .ok (.getfield 33, 3) := by decide +kernel
theorem dX10_restoreState_4 : decode cX10_restoreState 4 = .ok (.getfield 366, 3) := by decide +kernel
theorem dX10_restoreState_7 : decode cX10_restoreState 7 = .ok (.ifCond .ne 14, 3) := by decide +kernel
theorem dX10_restoreState_10 : decode cX10_restoreState 10 = .ok (.new 299, 3) := by decide +kernel
theorem dX10_restoreState_13 : decode cX10_restoreState 13 = .ok (.dup, 1) := by decide +kernel
theorem dX10_restoreState_14 : decode cX10_restoreState 14 = .ok (.ldc_w 370, 3) := by decide +kernel
theorem dX10_restoreState_17 : decode cX10_restoreState 17 = .ok (.invokespecial 303, 3) := by decide +kernel
theorem dX10_restoreState_20 : decode cX10_restoreState 20 = .ok (.athrow, 1) := by decide +kernel
theorem dX10_restoreState_21 : decode cX10_restoreState 21 = .ok (.aload_n 0, 1) := by decide +kernel
theorem dX10_restoreState_22 : decode cX10_restoreState 22 = .ok (.getfield 33, 3) := by decide +kernel
theorem dX10_restoreState_25 : decode cX10_restoreState 25 = .ok (.aload_n 0, 1) := by decide +kernel
theorem dX10_restoreState_26 : decode cX10_restoreState 26 = .ok (.getfield 26, 3) := by decide +kernel
theorem dX10_restoreState_29 : decode cX10_restoreState 29 = .ok (.invokevirtual 372, 3) := by decide +kernel
theorem dX10_restoreState_32 : decode cX10_restoreState 32 = .ok (.aload_n 0, 1) := by decide +kernel
theorem dX10_restoreState_33 : decode cX10_restoreState 33 = .ok (.getfield 26, 3) := by decide +kernel
theorem dX10_restoreState_36 : decode cX10_restoreState 36 = .ok (.getfield 130, 3) := by decide +kernel
theorem dX10_restoreState_39 : decode cX10_restoreState 39 = .ok (.ireturn, 1) := by decide +kernel
theorem dX10_backlash_0 : decode cX10_backlash 0 = .ok (.aload_n 0, 1) := by decide +kernel
theorem dX10_backlash_1 : decode cX10_backlash 1 = .ok (.iload_n 1, 1) := by decide +kernel
theorem dX10_backlash_2 : decode cX10_backlash 2 = .ok (.invokevirtual 140, 3) := by decide +kernel
theorem dX10_backlash_5 : decode cX10_backlash 5 = .ok (.aload_n 0, 1) := by decide +kernel
theorem dX10_backlash_6 : decode cX10_backlash 6 = .ok (.getfield 26, 3) := by decide +kernel
theorem dX10_backlash_9 : decode cX10_backlash 9 = .ok (.getfield 154, 3) := by decide +kernel
theorem dX10_backlash_12 : decode cX10_backlash 12 = .ok (.iload_n 1, 1) := by decide +kernel
theorem dX10_backlash_13 : decode cX10_backlash 13 = .ok (.aaload, 1) := by decide +kernel
theorem dX10_backlash_14 : decode cX10_backlash 14 = .ok (.aload_n 0, 1) := by decide +kernel
theorem dX10_backlash_15 : decode cX10_backlash 15 = .ok (.getfield 26, 3) := by decide +kernel
theorem dX10_backlash_18 : decode cX10_backlash 18 = .ok (.getfield 127, 3) := by decide +kernel
theorem dX10_backlash_21 : decode cX10_backlash 21 = .ok (.invokevirtual 337, 3) := by decide +kernel
theorem dX10_backlash_24 : decode cX10_backlash 24 = .ok (.ireturn, 1) := by decide +kernel
theorem dX10_lag_0 : decode cX10_lag 0 = .ok (.aload_n 0, 1) := by decide +kernel
theorem dX10_lag_1 : decode cX10_lag 1 = .ok (.iload_n 1, 1) := by decide +kernel
theorem dX10_lag_2 : decode cX10_lag 2 = .ok (.invokevirtual 140, 3) := by decide +kernel
theorem dX10_lag_5 : decode cX10_lag 5 = .ok (.aload_n 0, 1) := by decide +kernel
theorem dX10_lag_6 : decode cX10_lag 6 = .ok (.getfield 26, 3) := by decide +kernel
theorem dX10_lag_9 : decode cX10_lag 9 = .ok (.getfield 310, 3) := by decide +kernel
theorem dX10_lag_12 : decode cX10_lag 12 = .ok (.iload_n 1, 1) := by decide +kernel
theorem dX10_lag_13 : decode cX10_lag 13 = .ok (.iaload, 1) := by decide +kernel
theorem dX10_lag_14 : decode cX10_lag 14 = .ok (.ireturn, 1) := by decide +kernel
theorem dX10_shown_0 : decode cX10_shown 0 = .ok (.aload_n 0, 1) := by decide +kernel
theorem dX10_shown_1 : decode cX10_shown 1 = .ok (.iload_n 1, 1) := by decide +kernel
theorem dX10_shown_2 : decode cX10_shown 2 = .ok (.invokevirtual 140, 3) := by decide +kernel
theorem dX10_shown_5 : decode cX10_shown 5 = .ok (.aload_n 0, 1) := by decide +kernel
theorem dX10_shown_6 : decode cX10_shown 6 = .ok (.iload_n 1, 1) := by decide +kernel
theorem dX10_shown_7 : decode cX10_shown 7 = .ok (.aload_n 0, 1) := by decide +kernel
theorem dX10_shown_8 : decode cX10_shown 8 = .ok (.getfield 54, 3) := by decide +kernel
theorem dX10_shown_11 : decode cX10_shown 11 = .ok (.invokevirtual 181, 3) := by decide +kernel
theorem dX10_shown_14 : decode cX10_shown 14 = .ok (.aload_n 0, 1) := by decide +kernel
theorem dX10_shown_15 : decode cX10_shown 15 = .ok (.getfield 26, 3) := by decide +kernel
theorem dX10_shown_18 : decode cX10_shown 18 = .ok (.getfield 130, 3) := by decide +kernel
theorem dX10_shown_21 : decode cX10_shown 21 = .ok (.invokevirtual 334, 3) := by decide +kernel
theorem dX10_shown_24 : decode cX10_shown 24 = .ok (.lstore_n 2, 1) := by decide +kernel
theorem dX10_shown_25 : decode cX10_shown 25 = .ok (.lload_n 2, 1) := by decide +kernel
theorem dX10_shown_26 : decode cX10_shown 26 = .ok (.aload_n 0, 1) := by decide +kernel
theorem dX10_shown_27 : decode cX10_shown 27 = .ok (.getfield 26, 3) := by decide +kernel
theorem dX10_shown_30 : decode cX10_shown 30 = .ok (.getfield 310, 3) := by decide +kernel
theorem dX10_shown_33 : decode cX10_shown 33 = .ok (.iload_n 1, 1) := by decide +kernel
theorem dX10_shown_34 : decode cX10_shown 34 = .ok (.iaload, 1) := by decide +kernel
theorem dX10_shown_35 : decode cX10_shown 35 = .ok (.i2l, 1) := by decide +kernel
theorem dX10_shown_36 : decode cX10_shown 36 = .ok (.ladd, 1) := by decide +kernel
theorem dX10_shown_37 : decode cX10_shown 37 = .ok (.ldc_w 375, 3) := by decide +kernel
theorem dX10_shown_40 : decode cX10_shown 40 = .ok (.invokestatic 376, 3) := by decide +kernel
theorem dX10_shown_43 : decode cX10_shown 43 = .ok (.ireturn, 1) := by decide +kernel
theorem dX10_printErrors_0 : decode cX10_printErrors 0 = .ok (.aload_n 0, 1) := by decide +kernel
theorem dX10_printErrors_1 : decode cX10_printErrors 1 = .ok (.iload_n 1, 1) := by decide +kernel
theorem dX10_printErrors_2 : decode cX10_printErrors 2 = .ok (.invokevirtual 140, 3) := by decide +kernel
theorem dX10_printErrors_5 : decode cX10_printErrors 5 = .ok (.aload_n 0, 1) := by decide +kernel
theorem dX10_printErrors_6 : decode cX10_printErrors 6 = .ok (.iload_n 2, 1) := by decide +kernel
theorem dX10_printErrors_7 : decode cX10_printErrors 7 = .ok (.iload_n 3, 1) := by decide +kernel
theorem dX10_printErrors_8 : decode cX10_printErrors 8 = .ok (.invokevirtual 203, 3) := by decide +kernel
theorem dX10_printErrors_11 : decode cX10_printErrors 11 = .ok (.iload 4, 2) := by decide +kernel
theorem dX10_printErrors_13 : decode cX10_printErrors 13 = .ok (.iconst 1, 1) := by decide +kernel
theorem dX10_printErrors_14 : decode cX10_printErrors 14 = .ok (.sipush 999, 3) := by decide +kernel
theorem dX10_printErrors_17 : decode cX10_printErrors 17 = .ok (.invokestatic 117, 3) := by decide +kernel
theorem dX10_printErrors_20 : decode cX10_printErrors 20 = .ok (.aload_n 0, 1) := by decide +kernel
theorem dX10_printErrors_21 : decode cX10_printErrors 21 = .ok (.iload_n 1, 1) := by decide +kernel
theorem dX10_printErrors_22 : decode cX10_printErrors 22 = .ok (.invokevirtual 210, 3) := by decide +kernel
theorem dX10_printErrors_25 : decode cX10_printErrors 25 = .ok (.astore 5, 2) := by decide +kernel
theorem dX10_printErrors_27 : decode cX10_printErrors 27 = .ok (.aload_n 0, 1) := by decide +kernel
theorem dX10_printErrors_28 : decode cX10_printErrors 28 = .ok (.getfield 40, 3) := by decide +kernel
theorem dX10_printErrors_31 : decode cX10_printErrors 31 = .ok (.iconst 0, 1) := by decide +kernel
theorem dX10_printErrors_32 : decode cX10_printErrors 32 = .ok (.putfield 380, 3) := by decide +kernel
theorem dX10_printErrors_35 : decode cX10_printErrors 35 = .ok (.iload_n 2, 1) := by decide +kernel
theorem dX10_printErrors_36 : decode cX10_printErrors 36 = .ok (.istore 6, 2) := by decide +kernel
theorem dX10_printErrors_38 : decode cX10_printErrors 38 = .ok (.iconst 0, 1) := by decide +kernel
theorem dX10_printErrors_39 : decode cX10_printErrors 39 = .ok (.istore 7, 2) := by decide +kernel
theorem dX10_printErrors_41 : decode cX10_printErrors 41 = .ok (.iload 7, 2) := by decide +kernel
theorem dX10_printErrors_43 : decode cX10_printErrors 43 = .ok (.bipush 40, 2) := by decide +kernel
theorem dX10_printErrors_45 : decode cX10_printErrors 45 = .ok (.if_icmp .ge 71, 3) := by decide +kernel
theorem dX10_printErrors_48 : decode cX10_printErrors 48 = .ok (.iload 6, 2) := by decide +kernel
theorem dX10_printErrors_50 : decode cX10_printErrors 50 = .ok (.iload_n 3, 1) := by decide +kernel
theorem dX10_printErrors_51 : decode cX10_printErrors 51 = .ok (.if_icmp .gt 65, 3) := by decide +kernel
theorem dX10_printErrors_54 : decode cX10_printErrors 54 = .ok (.aload_n 0, 1) := by decide +kernel
theorem dX10_printErrors_55 : decode cX10_printErrors 55 = .ok (.getfield 40, 3) := by decide +kernel
theorem dX10_printErrors_58 : decode cX10_printErrors 58 = .ok (.iload 6, 2) := by decide +kernel
theorem dX10_printErrors_60 : decode cX10_printErrors 60 = .ok (.i2l, 1) := by decide +kernel
theorem dX10_printErrors_61 : decode cX10_printErrors 61 = .ok (.invokevirtual 381, 3) := by decide +kernel
theorem dX10_printErrors_64 : decode cX10_printErrors 64 = .ok (.aload_n 0, 1) := by decide +kernel
theorem dX10_printErrors_65 : decode cX10_printErrors 65 = .ok (.getfield 40, 3) := by decide +kernel
theorem dX10_printErrors_68 : decode cX10_printErrors 68 = .ok (.bipush 58, 2) := by decide +kernel
theorem dX10_printErrors_70 : decode cX10_printErrors 70 = .ok (.invokevirtual 385, 3) := by decide +kernel
theorem dX10_printErrors_73 : decode cX10_printErrors 73 = .ok (.aload_n 0, 1) := by decide +kernel
theorem dX10_printErrors_74 : decode cX10_printErrors 74 = .ok (.getfield 40, 3) := by decide +kernel
theorem dX10_printErrors_77 : decode cX10_printErrors 77 = .ok (.aload 5, 2) := by decide +kernel
theorem dX10_printErrors_79 : decode cX10_printErrors 79 = .ok (.aload_n 0, 1) := by decide +kernel
theorem dX10_printErrors_80 : decode cX10_printErrors 80 = .ok (.getfield 19, 3) := by decide +kernel
theorem dX10_printErrors_83 : decode cX10_printErrors 83 = .ok (.iload 6, 2) := by decide +kernel
theorem dX10_printErrors_85 : decode cX10_printErrors 85 = .ok (.invokevirtual 195, 3) := by decide +kernel
theorem dX10_printErrors_88 : decode cX10_printErrors 88 = .ok (.invokevirtual 214, 3) := by decide +kernel
theorem dX10_printErrors_91 : decode cX10_printErrors 91 = .ok (.invokevirtual 381, 3) := by decide +kernel
theorem dX10_printErrors_94 : decode cX10_printErrors 94 = .ok (.aload_n 0, 1) := by decide +kernel
theorem dX10_printErrors_95 : decode cX10_printErrors 95 = .ok (.getfield 40, 3) := by decide +kernel
theorem dX10_printErrors_98 : decode cX10_printErrors 98 = .ok (.bipush 59, 2) := by decide +kernel
theorem dX10_printErrors_100 : decode cX10_printErrors 100 = .ok (.invokevirtual 385, 3) := by decide +kernel
theorem dX10_printErrors_103 : decode cX10_printErrors 103 = .ok (.iload 6, 2) := by decide +kernel
theorem dX10_printErrors_105 : decode cX10_printErrors 105 = .ok (.iload 4, 2) := by decide +kernel
theorem dX10_printErrors_107 : decode cX10_printErrors 107 = .ok (.iadd, 1) := by decide +kernel
theorem dX10_printErrors_108 : decode cX10_printErrors 108 = .ok (.istore 6, 2) := by decide +kernel
theorem dX10_printErrors_110 : decode cX10_printErrors 110 = .ok (.iinc 7 1, 3) := by decide +kernel
theorem dX10_printErrors_113 : decode cX10_printErrors 113 = .ok (.goto (-72), 3) := by decide +kernel
theorem dX10_printErrors_116 : decode cX10_printErrors 116 = .ok (.aload_n 0, 1) := by decide +kernel
theorem dX10_printErrors_117 : decode cX10_printErrors 117 = .ok (.getfield 40, 3) := by decide +kernel
theorem dX10_printErrors_120 : decode cX10_printErrors 120 = .ok (.getfield 380, 3) := by decide +kernel
theorem dX10_printErrors_123 : decode cX10_printErrors 123 = .ok (.ireturn, 1) := by decide +kernel
theorem dX10_report_0 : decode cX10_report 0 = .ok (.aload_n 0, 1) := by decide +kernel
theorem dX10_report_1 : decode cX10_report 1 = .ok (.iload_n 1, 1) := by decide +kernel
theorem dX10_report_2 : decode cX10_report 2 = .ok (.invokevirtual 192, 3) := by decide +kernel
theorem dX10_report_5 : decode cX10_report 5 = .ok (.aload_n 0, 1) := by decide +kernel
theorem dX10_report_6 : decode cX10_report 6 = .ok (.getfield 40, 3) := by decide +kernel
theorem dX10_report_9 : decode cX10_report 9 = .ok (.iconst 0, 1) := by decide +kernel
theorem dX10_report_10 : decode cX10_report 10 = .ok (.putfield 380, 3) := by decide +kernel
theorem dX10_report_13 : decode cX10_report 13 = .ok (.iconst 0, 1) := by decide +kernel
theorem dX10_report_14 : decode cX10_report 14 = .ok (.istore_n 2, 1) := by decide +kernel
theorem dX10_report_15 : decode cX10_report 15 = .ok (.iload_n 2, 1) := by decide +kernel
theorem dX10_report_16 : decode cX10_report 16 = .ok (.aload_n 0, 1) := by decide +kernel
theorem dX10_report_17 : decode cX10_report 17 = .ok (.getfield 19, 3) := by decide +kernel
theorem dX10_report_20 : decode cX10_report 20 = .ok (.getfield 108, 3) := by decide +kernel
theorem dX10_report_23 : decode cX10_report 23 = .ok (.if_icmp .ge 56, 3) := by decide +kernel
theorem dX10_report_26 : decode cX10_report 26 = .ok (.aload_n 0, 1) := by decide +kernel
theorem dX10_report_27 : decode cX10_report 27 = .ok (.getfield 40, 3) := by decide +kernel
theorem dX10_report_30 : decode cX10_report 30 = .ok (.aload_n 0, 1) := by decide +kernel
theorem dX10_report_31 : decode cX10_report 31 = .ok (.getfield 19, 3) := by decide +kernel
theorem dX10_report_34 : decode cX10_report 34 = .ok (.getfield 388, 3) := by decide +kernel
theorem dX10_report_37 : decode cX10_report 37 = .ok (.iload_n 2, 1) := by decide +kernel
theorem dX10_report_38 : decode cX10_report 38 = .ok (.laload, 1) := by decide +kernel
theorem dX10_report_39 : decode cX10_report 39 = .ok (.invokevirtual 391, 3) := by decide +kernel
theorem dX10_report_42 : decode cX10_report 42 = .ok (.aload_n 0, 1) := by decide +kernel
theorem dX10_report_43 : decode cX10_report 43 = .ok (.getfield 40, 3) := by decide +kernel
theorem dX10_report_46 : decode cX10_report 46 = .ok (.bipush 58, 2) := by decide +kernel
theorem dX10_report_48 : decode cX10_report 48 = .ok (.invokevirtual 385, 3) := by decide +kernel
theorem dX10_report_51 : decode cX10_report 51 = .ok (.aload_n 0, 1) := by decide +kernel
theorem dX10_report_52 : decode cX10_report 52 = .ok (.getfield 40, 3) := by decide +kernel
theorem dX10_report_55 : decode cX10_report 55 = .ok (.aload_n 0, 1) := by decide +kernel
theorem dX10_report_56 : decode cX10_report 56 = .ok (.iload_n 2, 1) := by decide +kernel
theorem dX10_report_57 : decode cX10_report 57 = .ok (.iload_n 1, 1) := by decide +kernel
theorem dX10_report_58 : decode cX10_report 58 = .ok (.invokevirtual 218, 3) := by decide +kernel
theorem dX10_report_61 : decode cX10_report 61 = .ok (.invokevirtual 381, 3) := by decide +kernel
theorem dX10_report_64 : decode cX10_report 64 = .ok (.aload_n 0, 1) := by decide +kernel
theorem dX10_report_65 : decode cX10_report 65 = .ok (.getfield 40, 3) := by decide +kernel
theorem dX10_report_68 : decode cX10_report 68 = .ok (.bipush 10, 2) := by decide +kernel
theorem dX10_report_70 : decode cX10_report 70 = .ok (.invokevirtual 385, 3) := by decide +kernel
theorem dX10_report_73 : decode cX10_report 73 = .ok (.iinc 2 1, 3) := by decide +kernel
theorem dX10_report_76 : decode cX10_report 76 = .ok (.goto (-61), 3) := by decide +kernel
theorem dX10_report_79 : decode cX10_report 79 = .ok (.aload_n 0, 1) := by decide +kernel
theorem dX10_report_80 : decode cX10_report 80 = .ok (.getfield 40, 3) := by decide +kernel
theorem dX10_report_83 : decode cX10_report 83 = .ok (.getfield 380, 3) := by decide +kernel
theorem dX10_report_86 : decode cX10_report 86 = .ok (.ireturn, 1) := by decide +kernel
theorem dX10_printTrain_0 : decode cX10_printTrain 0 = .ok (.aload_n 0, 1) := by decide +kernel
theorem dX10_printTrain_1 : decode cX10_printTrain 1 = .ok (.iload_n 1, 1) := by decide +kernel
theorem dX10_printTrain_2 : decode cX10_printTrain 2 = .ok (.invokevirtual 140, 3) := by decide +kernel
theorem dX10_printTrain_5 : decode cX10_printTrain 5 = .ok (.aload_n 0, 1) := by decide +kernel
theorem dX10_printTrain_6 : decode cX10_printTrain 6 = .ok (.getfield 26, 3) := by decide +kernel
theorem dX10_printTrain_9 : decode cX10_printTrain 9 = .ok (.getfield 154, 3) := by decide +kernel
theorem dX10_printTrain_12 : decode cX10_printTrain 12 = .ok (.iload_n 1, 1) := by decide +kernel
theorem dX10_printTrain_13 : decode cX10_printTrain 13 = .ok (.aaload, 1) := by decide +kernel
theorem dX10_printTrain_14 : decode cX10_printTrain 14 = .ok (.astore_n 2, 1) := by decide +kernel
theorem dX10_printTrain_15 : decode cX10_printTrain 15 = .ok (.aload_n 0, 1) := by decide +kernel
theorem dX10_printTrain_16 : decode cX10_printTrain 16 = .ok (.getfield 40, 3) := by decide +kernel
theorem dX10_printTrain_19 : decode cX10_printTrain 19 = .ok (.iconst 0, 1) := by decide +kernel
theorem dX10_printTrain_20 : decode cX10_printTrain 20 = .ok (.putfield 380, 3) := by decide +kernel
theorem dX10_printTrain_23 : decode cX10_printTrain 23 = .ok (.iconst 0, 1) := by decide +kernel
theorem dX10_printTrain_24 : decode cX10_printTrain 24 = .ok (.istore_n 3, 1) := by decide +kernel
theorem dX10_printTrain_25 : decode cX10_printTrain 25 = .ok (.iload_n 3, 1) := by decide +kernel
theorem dX10_printTrain_26 : decode cX10_printTrain 26 = .ok (.aload_n 2, 1) := by decide +kernel
theorem dX10_printTrain_27 : decode cX10_printTrain 27 = .ok (.getfield 158, 3) := by decide +kernel
theorem dX10_printTrain_30 : decode cX10_printTrain 30 = .ok (.if_icmp .ge 28, 3) := by decide +kernel
theorem dX10_printTrain_33 : decode cX10_printTrain 33 = .ok (.iload_n 3, 1) := by decide +kernel
theorem dX10_printTrain_34 : decode cX10_printTrain 34 = .ok (.ifCond .le 12, 3) := by decide +kernel
theorem dX10_printTrain_37 : decode cX10_printTrain 37 = .ok (.aload_n 0, 1) := by decide +kernel
theorem dX10_printTrain_38 : decode cX10_printTrain 38 = .ok (.getfield 40, 3) := by decide +kernel
theorem dX10_printTrain_41 : decode cX10_printTrain 41 = .ok (.bipush 42, 2) := by decide +kernel
theorem dX10_printTrain_43 : decode cX10_printTrain 43 = .ok (.invokevirtual 385, 3) := by decide +kernel
theorem dX10_printTrain_46 : decode cX10_printTrain 46 = .ok (.aload_n 0, 1) := by decide +kernel
theorem dX10_printTrain_47 : decode cX10_printTrain 47 = .ok (.aload_n 2, 1) := by decide +kernel
theorem dX10_printTrain_48 : decode cX10_printTrain 48 = .ok (.iload_n 3, 1) := by decide +kernel
theorem dX10_printTrain_49 : decode cX10_printTrain 49 = .ok (.invokevirtual 394, 3) := by decide +kernel
theorem dX10_printTrain_52 : decode cX10_printTrain 52 = .ok (.iinc 3 1, 3) := by decide +kernel
theorem dX10_printTrain_55 : decode cX10_printTrain 55 = .ok (.goto (-30), 3) := by decide +kernel
theorem dX10_printTrain_58 : decode cX10_printTrain 58 = .ok (.aload_n 0, 1) := by decide +kernel
theorem dX10_printTrain_59 : decode cX10_printTrain 59 = .ok (.iload_n 1, 1) := by decide +kernel
theorem dX10_printTrain_60 : decode cX10_printTrain 60 = .ok (.aload_n 0, 1) := by decide +kernel
theorem dX10_printTrain_61 : decode cX10_printTrain 61 = .ok (.getfield 54, 3) := by decide +kernel
theorem dX10_printTrain_64 : decode cX10_printTrain 64 = .ok (.invokevirtual 181, 3) := by decide +kernel
theorem dX10_printTrain_67 : decode cX10_printTrain 67 = .ok (.astore_n 3, 1) := by decide +kernel
theorem dX10_printTrain_68 : decode cX10_printTrain 68 = .ok (.aload_n 0, 1) := by decide +kernel
theorem dX10_printTrain_69 : decode cX10_printTrain 69 = .ok (.getfield 40, 3) := by decide +kernel
theorem dX10_printTrain_72 : decode cX10_printTrain 72 = .ok (.bipush 61, 2) := by decide +kernel
theorem dX10_printTrain_74 : decode cX10_printTrain 74 = .ok (.invokevirtual 385, 3) := by decide +kernel
theorem dX10_printTrain_77 : decode cX10_printTrain 77 = .ok (.aload_n 0, 1) := by decide +kernel
theorem dX10_printTrain_78 : decode cX10_printTrain 78 = .ok (.getfield 40, 3) := by decide +kernel
theorem dX10_printTrain_81 : decode cX10_printTrain 81 = .ok (.aload_n 3, 1) := by decide +kernel
theorem dX10_printTrain_82 : decode cX10_printTrain 82 = .ok (.getfield 185, 3) := by decide +kernel
theorem dX10_printTrain_85 : decode cX10_printTrain 85 = .ok (.invokevirtual 381, 3) := by decide +kernel
theorem dX10_printTrain_88 : decode cX10_printTrain 88 = .ok (.aload_n 0, 1) := by decide +kernel
theorem dX10_printTrain_89 : decode cX10_printTrain 89 = .ok (.getfield 40, 3) := by decide +kernel
theorem dX10_printTrain_92 : decode cX10_printTrain 92 = .ok (.bipush 58, 2) := by decide +kernel
theorem dX10_printTrain_94 : decode cX10_printTrain 94 = .ok (.invokevirtual 385, 3) := by decide +kernel
theorem dX10_printTrain_97 : decode cX10_printTrain 97 = .ok (.aload_n 0, 1) := by decide +kernel
theorem dX10_printTrain_98 : decode cX10_printTrain 98 = .ok (.getfield 40, 3) := by decide +kernel
theorem dX10_printTrain_101 : decode cX10_printTrain 101 = .ok (.aload_n 3, 1) := by decide +kernel
theorem dX10_printTrain_102 : decode cX10_printTrain 102 = .ok (.getfield 189, 3) := by decide +kernel
theorem dX10_printTrain_105 : decode cX10_printTrain 105 = .ok (.invokevirtual 381, 3) := by decide +kernel
theorem dX10_printTrain_108 : decode cX10_printTrain 108 = .ok (.aload_n 0, 1) := by decide +kernel
theorem dX10_printTrain_109 : decode cX10_printTrain 109 = .ok (.getfield 40, 3) := by decide +kernel
theorem dX10_printTrain_112 : decode cX10_printTrain 112 = .ok (.getfield 380, 3) := by decide +kernel
theorem dX10_printTrain_115 : decode cX10_printTrain 115 = .ok (.ireturn, 1) := by decide +kernel
theorem dX10_outputByte_0 : decode cX10_outputByte 0 = .ok (.iload_n 1, 1) := by decide +kernel
theorem dX10_outputByte_1 : decode cX10_outputByte 1 = .ok (.ifCond .lt 14, 3) := by decide +kernel
theorem dX10_outputByte_4 : decode cX10_outputByte 4 = .ok (.iload_n 1, 1) := by decide +kernel
theorem dX10_outputByte_5 : decode cX10_outputByte 5 = .ok (.aload_n 0, 1) := by decide +kernel
theorem dX10_outputByte_6 : decode cX10_outputByte 6 = .ok (.getfield 40, 3) := by decide +kernel
theorem dX10_outputByte_9 : decode cX10_outputByte 9 = .ok (.getfield 380, 3) := by decide +kernel
theorem dX10_outputByte_12 : decode cX10_outputByte 12 = .ok (.if_icmp .lt 5, 3) := by decide +kernel
theorem dX10_outputByte_15 : decode cX10_outputByte 15 = .ok (.iconst (-1), 1) := by decide +kernel
theorem dX10_outputByte_16 : decode cX10_outputByte 16 = .ok (.ireturn, 1) := by decide +kernel
theorem dX10_outputByte_17 : decode cX10_outputByte 17 = .ok (.aload_n 0, 1) := by decide +kernel
theorem dX10_outputByte_18 : decode cX10_outputByte 18 = .ok (.getfield 40, 3) := by decide +kernel
theorem dX10_outputByte_21 : decode cX10_outputByte 21 = .ok (.getfield 398, 3) := by decide +kernel
theorem dX10_outputByte_24 : decode cX10_outputByte 24 = .ok (.iload_n 1, 1) := by decide +kernel
theorem dX10_outputByte_25 : decode cX10_outputByte 25 = .ok (.baload, 1) := by decide +kernel
theorem dX10_outputByte_26 : decode cX10_outputByte 26 = .ok (.ireturn, 1) := by decide +kernel
theorem dX10_putPart_0 : decode cX10_putPart 0 = .ok (.aload_n 0, 1) := by decide +kernel
theorem dX10_putPart_1 : decode cX10_putPart 1 = .ok (.getfield 40, 3) := by decide +kernel
theorem dX10_putPart_4 : decode cX10_putPart 4 = .ok (.aload_n 1, 1) := by decide +kernel
theorem dX10_putPart_5 : decode cX10_putPart 5 = .ok (.iload_n 2, 1) := by decide +kernel
theorem dX10_putPart_6 : decode cX10_putPart 6 = .ok (.iconst 1, 1) := by decide +kernel
theorem dX10_putPart_7 : decode cX10_putPart 7 = .ok (.invokevirtual 172, 3) := by decide +kernel
theorem dX10_putPart_10 : decode cX10_putPart 10 = .ok (.i2l, 1) := by decide +kernel
theorem dX10_putPart_11 : decode cX10_putPart 11 = .ok (.invokevirtual 381, 3) := by decide +kernel
theorem dX10_putPart_14 : decode cX10_putPart 14 = .ok (.aload_n 1, 1) := by decide +kernel
theorem dX10_putPart_15 : decode cX10_putPart 15 = .ok (.iload_n 2, 1) := by decide +kernel
theorem dX10_putPart_16 : decode cX10_putPart 16 = .ok (.invokevirtual 293, 3) := by decide +kernel
theorem dX10_putPart_19 : decode cX10_putPart 19 = .ok (.ifCond .ne 13, 3) := by decide +kernel
theorem dX10_putPart_22 : decode cX10_putPart 22 = .ok (.aload_n 0, 1) := by decide +kernel
theorem dX10_putPart_23 : decode cX10_putPart 23 = .ok (.getfield 40, 3) := by decide +kernel
theorem dX10_putPart_26 : decode cX10_putPart 26 = .ok (.bipush 105, 2) := by decide +kernel
theorem dX10_putPart_28 : decode cX10_putPart 28 = .ok (.invokevirtual 385, 3) := by decide +kernel
theorem dX10_putPart_31 : decode cX10_putPart 31 = .ok (.return_, 1) := by decide +kernel
theorem dX10_putPart_32 : decode cX10_putPart 32 = .ok (.aload_n 0, 1) := by decide +kernel
theorem dX10_putPart_33 : decode cX10_putPart 33 = .ok (.getfield 40, 3) := by decide +kernel
theorem dX10_putPart_36 : decode cX10_putPart 36 = .ok (.aload_n 1, 1) := by decide +kernel
theorem dX10_putPart_37 : decode cX10_putPart 37 = .ok (.iload_n 2, 1) := by decide +kernel
theorem dX10_putPart_38 : decode cX10_putPart 38 = .ok (.iconst 0, 1) := by decide +kernel
theorem dX10_putPart_39 : decode cX10_putPart 39 = .ok (.invokevirtual 172, 3) := by decide +kernel
theorem dX10_putPart_42 : decode cX10_putPart 42 = .ok (.iconst 1, 1) := by decide +kernel
theorem dX10_putPart_43 : decode cX10_putPart 43 = .ok (.if_icmp .ne 8, 3) := by decide +kernel
theorem dX10_putPart_46 : decode cX10_putPart 46 = .ok (.bipush 111, 2) := by decide +kernel
theorem dX10_putPart_48 : decode cX10_putPart 48 = .ok (.goto 5, 3) := by decide +kernel
theorem dX10_putPart_51 : decode cX10_putPart 51 = .ok (.bipush 47, 2) := by decide +kernel
theorem dX10_putPart_53 : decode cX10_putPart 53 = .ok (.invokevirtual 385, 3) := by decide +kernel
theorem dX10_putPart_56 : decode cX10_putPart 56 = .ok (.aload_n 0, 1) := by decide +kernel
theorem dX10_putPart_57 : decode cX10_putPart 57 = .ok (.getfield 40, 3) := by decide +kernel
theorem dX10_putPart_60 : decode cX10_putPart 60 = .ok (.aload_n 1, 1) := by decide +kernel
theorem dX10_putPart_61 : decode cX10_putPart 61 = .ok (.iload_n 2, 1) := by decide +kernel
theorem dX10_putPart_62 : decode cX10_putPart 62 = .ok (.iconst 2, 1) := by decide +kernel
theorem dX10_putPart_63 : decode cX10_putPart 63 = .ok (.invokevirtual 172, 3) := by decide +kernel
theorem dX10_putPart_66 : decode cX10_putPart 66 = .ok (.i2l, 1) := by decide +kernel
theorem dX10_putPart_67 : decode cX10_putPart 67 = .ok (.invokevirtual 381, 3) := by decide +kernel
theorem dX10_putPart_70 : decode cX10_putPart 70 = .ok (.return_, 1) := by decide +kernel
theorem dX10_pointerOf_0 : decode cX10_pointerOf 0 = .ok (.aload_n 0, 1) := by decide +kernel
theorem dX10_pointerOf_1 : decode cX10_pointerOf 1 = .ok (.getfield 26, 3) := by decide +kernel
theorem dX10_pointerOf_4 : decode cX10_pointerOf 4 = .ok (.getfield 154, 3) := by decide +kernel
theorem dX10_pointerOf_7 : decode cX10_pointerOf 7 = .ok (.iload_n 1, 1) := by decide +kernel
theorem dX10_pointerOf_8 : decode cX10_pointerOf 8 = .ok (.aaload, 1) := by decide +kernel
theorem dX10_pointerOf_9 : decode cX10_pointerOf 9 = .ok (.astore_n 3, 1) := by decide +kernel
theorem dX10_pointerOf_10 : decode cX10_pointerOf 10 = .ok (.aload_n 2, 1) := by decide +kernel
theorem dX10_pointerOf_11 : decode cX10_pointerOf 11 = .ok (.aload_n 3, 1) := by decide +kernel
theorem dX10_pointerOf_12 : decode cX10_pointerOf 12 = .ok (.invokevirtual 402, 3) := by decide +kernel
theorem dX10_pointerOf_15 : decode cX10_pointerOf 15 = .ok (.aload_n 3, 1) := by decide +kernel
theorem dX10_pointerOf_16 : decode cX10_pointerOf 16 = .ok (.invokevirtual 406, 3) := by decide +kernel
theorem dX10_pointerOf_19 : decode cX10_pointerOf 19 = .ok (.invokevirtual 409, 3) := by decide +kernel
theorem dX10_pointerOf_22 : decode cX10_pointerOf 22 = .ok (.aload_n 0, 1) := by decide +kernel
theorem dX10_pointerOf_23 : decode cX10_pointerOf 23 = .ok (.getfield 19, 3) := by decide +kernel
theorem dX10_pointerOf_26 : decode cX10_pointerOf 26 = .ok (.getfield 151, 3) := by decide +kernel
theorem dX10_pointerOf_29 : decode cX10_pointerOf 29 = .ok (.iload_n 1, 1) := by decide +kernel
theorem dX10_pointerOf_30 : decode cX10_pointerOf 30 = .ok (.iaload, 1) := by decide +kernel
theorem dX10_pointerOf_31 : decode cX10_pointerOf 31 = .ok (.istore 4, 2) := by decide +kernel
theorem dX10_pointerOf_33 : decode cX10_pointerOf 33 = .ok (.iload 4, 2) := by decide +kernel
theorem dX10_pointerOf_35 : decode cX10_pointerOf 35 = .ok (.ifCond .lt 29, 3) := by decide +kernel
theorem dX10_pointerOf_38 : decode cX10_pointerOf 38 = .ok (.aload_n 0, 1) := by decide +kernel
theorem dX10_pointerOf_39 : decode cX10_pointerOf 39 = .ok (.getfield 26, 3) := by decide +kernel
theorem dX10_pointerOf_42 : decode cX10_pointerOf 42 = .ok (.getfield 154, 3) := by decide +kernel
theorem dX10_pointerOf_45 : decode cX10_pointerOf 45 = .ok (.iload 4, 2) := by decide +kernel
theorem dX10_pointerOf_47 : decode cX10_pointerOf 47 = .ok (.aaload, 1) := by decide +kernel
theorem dX10_pointerOf_48 : decode cX10_pointerOf 48 = .ok (.astore 5, 2) := by decide +kernel
theorem dX10_pointerOf_50 : decode cX10_pointerOf 50 = .ok (.aload_n 2, 1) := by decide +kernel
theorem dX10_pointerOf_51 : decode cX10_pointerOf 51 = .ok (.aload 5, 2) := by decide +kernel
theorem dX10_pointerOf_53 : decode cX10_pointerOf 53 = .ok (.invokevirtual 402, 3) := by decide +kernel
theorem dX10_pointerOf_56 : decode cX10_pointerOf 56 = .ok (.aload 5, 2) := by decide +kernel
theorem dX10_pointerOf_58 : decode cX10_pointerOf 58 = .ok (.invokevirtual 406, 3) := by decide +kernel
theorem dX10_pointerOf_61 : decode cX10_pointerOf 61 = .ok (.invokevirtual 285, 3) := by decide +kernel
theorem dX10_pointerOf_64 : decode cX10_pointerOf 64 = .ok (.aload_n 2, 1) := by decide +kernel
theorem dX10_pointerOf_65 : decode cX10_pointerOf 65 = .ok (.areturn, 1) := by decide +kernel
theorem dX10_trueRateOf_0 : decode cX10_trueRateOf 0 = .ok (.aload_n 2, 1) := by decide +kernel
theorem dX10_trueRateOf_1 : decode cX10_trueRateOf 1 = .ok (.aload_n 0, 1) := by decide +kernel
theorem dX10_trueRateOf_2 : decode cX10_trueRateOf 2 = .ok (.getfield 19, 3) := by decide +kernel
theorem dX10_trueRateOf_5 : decode cX10_trueRateOf 5 = .ok (.iload_n 1, 1) := by decide +kernel
theorem dX10_trueRateOf_6 : decode cX10_trueRateOf 6 = .ok (.invokevirtual 412, 3) := by decide +kernel
theorem dX10_trueRateOf_9 : decode cX10_trueRateOf 9 = .ok (.aload_n 0, 1) := by decide +kernel
theorem dX10_trueRateOf_10 : decode cX10_trueRateOf 10 = .ok (.getfield 19, 3) := by decide +kernel
theorem dX10_trueRateOf_13 : decode cX10_trueRateOf 13 = .ok (.getfield 143, 3) := by decide +kernel
theorem dX10_trueRateOf_16 : decode cX10_trueRateOf 16 = .ok (.iload_n 1, 1) := by decide +kernel
theorem dX10_trueRateOf_17 : decode cX10_trueRateOf 17 = .ok (.iaload, 1) := by decide +kernel
theorem dX10_trueRateOf_18 : decode cX10_trueRateOf 18 = .ok (.i2l, 1) := by decide +kernel
theorem dX10_trueRateOf_19 : decode cX10_trueRateOf 19 = .ok (.invokevirtual 409, 3) := by decide +kernel
theorem dX10_trueRateOf_22 : decode cX10_trueRateOf 22 = .ok (.aload_n 2, 1) := by decide +kernel
theorem dX10_trueRateOf_23 : decode cX10_trueRateOf 23 = .ok (.areturn, 1) := by decide +kernel
theorem dX10_trueOwnOf_0 : decode cX10_trueOwnOf 0 = .ok (.aload_n 0, 1) := by decide +kernel
theorem dX10_trueOwnOf_1 : decode cX10_trueOwnOf 1 = .ok (.iload_n 1, 1) := by decide +kernel
theorem dX10_trueOwnOf_2 : decode cX10_trueOwnOf 2 = .ok (.aload_n 2, 1) := by decide +kernel
theorem dX10_trueOwnOf_3 : decode cX10_trueOwnOf 3 = .ok (.invokevirtual 225, 3) := by decide +kernel
theorem dX10_trueOwnOf_6 : decode cX10_trueOwnOf 6 = .ok (.pop, 1) := by decide +kernel
theorem dX10_trueOwnOf_7 : decode cX10_trueOwnOf 7 = .ok (.aload_n 0, 1) := by decide +kernel
theorem dX10_trueOwnOf_8 : decode cX10_trueOwnOf 8 = .ok (.getfield 19, 3) := by decide +kernel
theorem dX10_trueOwnOf_11 : decode cX10_trueOwnOf 11 = .ok (.getfield 151, 3) := by decide +kernel
theorem dX10_trueOwnOf_14 : decode cX10_trueOwnOf 14 = .ok (.iload_n 1, 1) := by decide +kernel
theorem dX10_trueOwnOf_15 : decode cX10_trueOwnOf 15 = .ok (.iaload, 1) := by decide +kernel
theorem dX10_trueOwnOf_16 : decode cX10_trueOwnOf 16 = .ok (.istore_n 3, 1) := by decide +kernel
theorem dX10_trueOwnOf_17 : decode cX10_trueOwnOf 17 = .ok (.iload_n 3, 1) := by decide +kernel
theorem dX10_trueOwnOf_18 : decode cX10_trueOwnOf 18 = .ok (.ifCond .lt 26, 3) := by decide +kernel
theorem dX10_trueOwnOf_21 : decode cX10_trueOwnOf 21 = .ok (.aload_n 2, 1) := by decide +kernel
theorem dX10_trueOwnOf_22 : decode cX10_trueOwnOf 22 = .ok (.aload_n 0, 1) := by decide +kernel
theorem dX10_trueOwnOf_23 : decode cX10_trueOwnOf 23 = .ok (.getfield 19, 3) := by decide +kernel
theorem dX10_trueOwnOf_26 : decode cX10_trueOwnOf 26 = .ok (.iload_n 3, 1) := by decide +kernel
theorem dX10_trueOwnOf_27 : decode cX10_trueOwnOf 27 = .ok (.invokevirtual 412, 3) := by decide +kernel
theorem dX10_trueOwnOf_30 : decode cX10_trueOwnOf 30 = .ok (.lneg, 1) := by decide +kernel
theorem dX10_trueOwnOf_31 : decode cX10_trueOwnOf 31 = .ok (.aload_n 0, 1) := by decide +kernel
theorem dX10_trueOwnOf_32 : decode cX10_trueOwnOf 32 = .ok (.getfield 19, 3) := by decide +kernel
theorem dX10_trueOwnOf_35 : decode cX10_trueOwnOf 35 = .ok (.getfield 143, 3) := by decide +kernel
theorem dX10_trueOwnOf_38 : decode cX10_trueOwnOf 38 = .ok (.iload_n 3, 1) := by decide +kernel
theorem dX10_trueOwnOf_39 : decode cX10_trueOwnOf 39 = .ok (.iaload, 1) := by decide +kernel
theorem dX10_trueOwnOf_40 : decode cX10_trueOwnOf 40 = .ok (.i2l, 1) := by decide +kernel
theorem dX10_trueOwnOf_41 : decode cX10_trueOwnOf 41 = .ok (.invokevirtual 285, 3) := by decide +kernel
theorem dX10_trueOwnOf_44 : decode cX10_trueOwnOf 44 = .ok (.aload_n 2, 1) := by decide +kernel
theorem dX10_trueOwnOf_45 : decode cX10_trueOwnOf 45 = .ok (.areturn, 1) := by decide +kernel
theorem dX10_driftOf_0 : decode cX10_driftOf 0 = .ok (.aload_n 0, 1) := by decide +kernel
theorem dX10_driftOf_1 : decode cX10_driftOf 1 = .ok (.iload_n 1, 1) := by decide +kernel
theorem dX10_driftOf_2 : decode cX10_driftOf 2 = .ok (.aload_n 0, 1) := by decide +kernel
theorem dX10_driftOf_3 : decode cX10_driftOf 3 = .ok (.getfield 61, 3) := by decide +kernel
theorem dX10_driftOf_6 : decode cX10_driftOf 6 = .ok (.invokevirtual 181, 3) := by decide +kernel
theorem dX10_driftOf_9 : decode cX10_driftOf 9 = .ok (.pop, 1) := by decide +kernel
theorem dX10_driftOf_10 : decode cX10_driftOf 10 = .ok (.aload_n 0, 1) := by decide +kernel
theorem dX10_driftOf_11 : decode cX10_driftOf 11 = .ok (.getfield 61, 3) := by decide +kernel
theorem dX10_driftOf_14 : decode cX10_driftOf 14 = .ok (.aload_n 0, 1) := by decide +kernel
theorem dX10_driftOf_15 : decode cX10_driftOf 15 = .ok (.getfield 19, 3) := by decide +kernel
theorem dX10_driftOf_18 : decode cX10_driftOf 18 = .ok (.iload_n 1, 1) := by decide +kernel
theorem dX10_driftOf_19 : decode cX10_driftOf 19 = .ok (.invokevirtual 412, 3) := by decide +kernel
theorem dX10_driftOf_22 : decode cX10_driftOf 22 = .ok (.lneg, 1) := by decide +kernel
theorem dX10_driftOf_23 : decode cX10_driftOf 23 = .ok (.aload_n 0, 1) := by decide +kernel
theorem dX10_driftOf_24 : decode cX10_driftOf 24 = .ok (.getfield 19, 3) := by decide +kernel
theorem dX10_driftOf_27 : decode cX10_driftOf 27 = .ok (.getfield 143, 3) := by decide +kernel
theorem dX10_driftOf_30 : decode cX10_driftOf 30 = .ok (.iload_n 1, 1) := by decide +kernel
theorem dX10_driftOf_31 : decode cX10_driftOf 31 = .ok (.iaload, 1) := by decide +kernel
theorem dX10_driftOf_32 : decode cX10_driftOf 32 = .ok (.i2l, 1) := by decide +kernel
theorem dX10_driftOf_33 : decode cX10_driftOf 33 = .ok (.invokevirtual 285, 3) := by decide +kernel
theorem dX10_driftOf_36 : decode cX10_driftOf 36 = .ok (.aload_n 0, 1) := by decide +kernel
theorem dX10_driftOf_37 : decode cX10_driftOf 37 = .ok (.getfield 61, 3) := by decide +kernel
theorem dX10_driftOf_40 : decode cX10_driftOf 40 = .ok (.areturn, 1) := by decide +kernel
theorem dX10_yearEndError_0 : decode cX10_yearEndError 0 = .ok (.aload_n 0, 1) := by decide +kernel
theorem dX10_yearEndError_1 : decode cX10_yearEndError 1 = .ok (.iload_n 1, 1) := by decide +kernel
theorem dX10_yearEndError_2 : decode cX10_yearEndError 2 = .ok (.invokevirtual 210, 3) := by decide +kernel
theorem dX10_yearEndError_5 : decode cX10_yearEndError 5 = .ok (.aload_n 0, 1) := by decide +kernel
theorem dX10_yearEndError_6 : decode cX10_yearEndError 6 = .ok (.getfield 19, 3) := by decide +kernel
theorem dX10_yearEndError_9 : decode cX10_yearEndError 9 = .ok (.iload_n 2, 1) := by decide +kernel
theorem dX10_yearEndError_10 : decode cX10_yearEndError 10 = .ok (.invokevirtual 195, 3) := by decide +kernel
theorem dX10_yearEndError_13 : decode cX10_yearEndError 13 = .ok (.invokevirtual 214, 3) := by decide +kernel
theorem dX10_yearEndError_16 : decode cX10_yearEndError 16 = .ok (.lreturn, 1) := by decide +kernel
theorem dX10_yearEndMiss_0 : decode cX10_yearEndMiss 0 = .ok (.aload_n 0, 1) := by decide +kernel
theorem dX10_yearEndMiss_1 : decode cX10_yearEndMiss 1 = .ok (.iload_n 1, 1) := by decide +kernel
theorem dX10_yearEndMiss_2 : decode cX10_yearEndMiss 2 = .ok (.invokevirtual 210, 3) := by decide +kernel
theorem dX10_yearEndMiss_5 : decode cX10_yearEndMiss 5 = .ok (.aload_n 0, 1) := by decide +kernel
theorem dX10_yearEndMiss_6 : decode cX10_yearEndMiss 6 = .ok (.getfield 19, 3) := by decide +kernel
theorem dX10_yearEndMiss_9 : decode cX10_yearEndMiss 9 = .ok (.iload_n 2, 1) := by decide +kernel
theorem dX10_yearEndMiss_10 : decode cX10_yearEndMiss 10 = .ok (.invokevirtual 195, 3) := by decide +kernel
theorem dX10_yearEndMiss_13 : decode cX10_yearEndMiss 13 = .ok (.invokevirtual 214, 3) := by decide +kernel
theorem dX10_yearEndMiss_16 : decode cX10_yearEndMiss 16 = .ok (.invokestatic 239, 3) := by decide +kernel
theorem dX10_yearEndMiss_19 : decode cX10_yearEndMiss 19 = .ok (.lreturn, 1) := by decide +kernel
theorem dX10_placeAmongMisses_0 : decode cX10_placeAmongMisses 0 = .ok (.iconst 0, 1) := by decide +kernel
theorem dX10_placeAmongMisses_1 : decode cX10_placeAmongMisses 1 = .ok (.istore_n 2, 1) := by decide +kernel
theorem dX10_placeAmongMisses_2 : decode cX10_placeAmongMisses 2 = .ok (.iconst 0, 1) := by decide +kernel
theorem dX10_placeAmongMisses_3 : decode cX10_placeAmongMisses 3 = .ok (.istore_n 3, 1) := by decide +kernel
theorem dX10_placeAmongMisses_4 : decode cX10_placeAmongMisses 4 = .ok (.iload_n 3, 1) := by decide +kernel
theorem dX10_placeAmongMisses_5 : decode cX10_placeAmongMisses 5 = .ok (.aload_n 0, 1) := by decide +kernel
theorem dX10_placeAmongMisses_6 : decode cX10_placeAmongMisses 6 = .ok (.getfield 19, 3) := by decide +kernel
theorem dX10_placeAmongMisses_9 : decode cX10_placeAmongMisses 9 = .ok (.getfield 108, 3) := by decide +kernel
theorem dX10_placeAmongMisses_12 : decode cX10_placeAmongMisses 12 = .ok (.if_icmp .ge 49, 3) := by decide +kernel
theorem dX10_placeAmongMisses_15 : decode cX10_placeAmongMisses 15 = .ok (.aload_n 0, 1) := by decide +kernel
theorem dX10_placeAmongMisses_16 : decode cX10_placeAmongMisses 16 = .ok (.getfield 74, 3) := by decide +kernel
theorem dX10_placeAmongMisses_19 : decode cX10_placeAmongMisses 19 = .ok (.iload_n 3, 1) := by decide +kernel
theorem dX10_placeAmongMisses_20 : decode cX10_placeAmongMisses 20 = .ok (.laload, 1) := by decide +kernel
theorem dX10_placeAmongMisses_21 : decode cX10_placeAmongMisses 21 = .ok (.aload_n 0, 1) := by decide +kernel
theorem dX10_placeAmongMisses_22 : decode cX10_placeAmongMisses 22 = .ok (.getfield 74, 3) := by decide +kernel
theorem dX10_placeAmongMisses_25 : decode cX10_placeAmongMisses 25 = .ok (.iload_n 1, 1) := by decide +kernel
theorem dX10_placeAmongMisses_26 : decode cX10_placeAmongMisses 26 = .ok (.laload, 1) := by decide +kernel
theorem dX10_placeAmongMisses_27 : decode cX10_placeAmongMisses 27 = .ok (.lcmp, 1) := by decide +kernel
theorem dX10_placeAmongMisses_28 : decode cX10_placeAmongMisses 28 = .ok (.ifCond .lt 24, 3) := by decide +kernel
theorem dX10_placeAmongMisses_31 : decode cX10_placeAmongMisses 31 = .ok (.aload_n 0, 1) := by decide +kernel
theorem dX10_placeAmongMisses_32 : decode cX10_placeAmongMisses 32 = .ok (.getfield 74, 3) := by decide +kernel
theorem dX10_placeAmongMisses_35 : decode cX10_placeAmongMisses 35 = .ok (.iload_n 3, 1) := by decide +kernel
theorem dX10_placeAmongMisses_36 : decode cX10_placeAmongMisses 36 = .ok (.laload, 1) := by decide +kernel
theorem dX10_placeAmongMisses_37 : decode cX10_placeAmongMisses 37 = .ok (.aload_n 0, 1) := by decide +kernel
theorem dX10_placeAmongMisses_38 : decode cX10_placeAmongMisses 38 = .ok (.getfield 74, 3) := by decide +kernel
theorem dX10_placeAmongMisses_41 : decode cX10_placeAmongMisses 41 = .ok (.iload_n 1, 1) := by decide +kernel
theorem dX10_placeAmongMisses_42 : decode cX10_placeAmongMisses 42 = .ok (.laload, 1) := by decide +kernel
theorem dX10_placeAmongMisses_43 : decode cX10_placeAmongMisses 43 = .ok (.lcmp, 1) := by decide +kernel
theorem dX10_placeAmongMisses_44 : decode cX10_placeAmongMisses 44 = .ok (.ifCond .ne 11, 3) := by decide +kernel
theorem dX10_placeAmongMisses_47 : decode cX10_placeAmongMisses 47 = .ok (.iload_n 3, 1) := by decide +kernel
theorem dX10_placeAmongMisses_48 : decode cX10_placeAmongMisses 48 = .ok (.iload_n 1, 1) := by decide +kernel
theorem dX10_placeAmongMisses_49 : decode cX10_placeAmongMisses 49 = .ok (.if_icmp .ge 6, 3) := by decide +kernel
theorem dX10_placeAmongMisses_52 : decode cX10_placeAmongMisses 52 = .ok (.iinc 2 1, 3) := by decide +kernel
theorem dX10_placeAmongMisses_55 : decode cX10_placeAmongMisses 55 = .ok (.iinc 3 1, 3) := by decide +kernel
theorem dX10_placeAmongMisses_58 : decode cX10_placeAmongMisses 58 = .ok (.goto (-54), 3) := by decide +kernel
theorem dX10_placeAmongMisses_61 : decode cX10_placeAmongMisses 61 = .ok (.iload_n 2, 1) := by decide +kernel
theorem dX10_placeAmongMisses_62 : decode cX10_placeAmongMisses 62 = .ok (.ireturn, 1) := by decide +kernel
theorem dX10_wayRound_0 : decode cX10_wayRound 0 = .ok (.iload_n 0, 1) := by decide +kernel
theorem dX10_wayRound_1 : decode cX10_wayRound 1 = .ok (.iload_n 1, 1) := by decide +kernel
theorem dX10_wayRound_2 : decode cX10_wayRound 2 = .ok (.isub, 1) := by decide +kernel
theorem dX10_wayRound_3 : decode cX10_wayRound 3 = .ok (.invokestatic 415, 3) := by decide +kernel
theorem dX10_wayRound_6 : decode cX10_wayRound 6 = .ok (.istore_n 2, 1) := by decide +kernel
theorem dX10_wayRound_7 : decode cX10_wayRound 7 = .ok (.iload_n 2, 1) := by decide +kernel
theorem dX10_wayRound_8 : decode cX10_wayRound 8 = .ok (.ldc_w 375, 3) := by decide +kernel
theorem dX10_wayRound_11 : decode cX10_wayRound 11 = .ok (.iload_n 2, 1) := by decide +kernel
theorem dX10_wayRound_12 : decode cX10_wayRound 12 = .ok (.isub, 1) := by decide +kernel
theorem dX10_wayRound_13 : decode cX10_wayRound 13 = .ok (.invokestatic 417, 3) := by decide +kernel
theorem dX10_wayRound_16 : decode cX10_wayRound 16 = .ok (.ireturn, 1) := by decide +kernel
theorem dX10_teethOfAll_0 : decode cX10_teethOfAll 0 = .ok (.iconst 0, 1) := by decide +kernel
theorem dX10_teethOfAll_1 : decode cX10_teethOfAll 1 = .ok (.istore_n 1, 1) := by decide +kernel
theorem dX10_teethOfAll_2 : decode cX10_teethOfAll 2 = .ok (.iconst 0, 1) := by decide +kernel
theorem dX10_teethOfAll_3 : decode cX10_teethOfAll 3 = .ok (.istore_n 2, 1) := by decide +kernel
theorem dX10_teethOfAll_4 : decode cX10_teethOfAll 4 = .ok (.iload_n 2, 1) := by decide +kernel
theorem dX10_teethOfAll_5 : decode cX10_teethOfAll 5 = .ok (.aload_n 0, 1) := by decide +kernel
theorem dX10_teethOfAll_6 : decode cX10_teethOfAll 6 = .ok (.getfield 19, 3) := by decide +kernel
theorem dX10_teethOfAll_9 : decode cX10_teethOfAll 9 = .ok (.getfield 108, 3) := by decide +kernel
theorem dX10_teethOfAll_12 : decode cX10_teethOfAll 12 = .ok (.if_icmp .ge 24, 3) := by decide +kernel
theorem dX10_teethOfAll_15 : decode cX10_teethOfAll 15 = .ok (.iload_n 1, 1) := by decide +kernel
theorem dX10_teethOfAll_16 : decode cX10_teethOfAll 16 = .ok (.aload_n 0, 1) := by decide +kernel
theorem dX10_teethOfAll_17 : decode cX10_teethOfAll 17 = .ok (.getfield 26, 3) := by decide +kernel
theorem dX10_teethOfAll_20 : decode cX10_teethOfAll 20 = .ok (.getfield 154, 3) := by decide +kernel
theorem dX10_teethOfAll_23 : decode cX10_teethOfAll 23 = .ok (.iload_n 2, 1) := by decide +kernel
theorem dX10_teethOfAll_24 : decode cX10_teethOfAll 24 = .ok (.aaload, 1) := by decide +kernel
theorem dX10_teethOfAll_25 : decode cX10_teethOfAll 25 = .ok (.invokevirtual 159, 3) := by decide +kernel
theorem dX10_teethOfAll_28 : decode cX10_teethOfAll 28 = .ok (.iadd, 1) := by decide +kernel
theorem dX10_teethOfAll_29 : decode cX10_teethOfAll 29 = .ok (.istore_n 1, 1) := by decide +kernel
theorem dX10_teethOfAll_30 : decode cX10_teethOfAll 30 = .ok (.iinc 2 1, 3) := by decide +kernel
theorem dX10_teethOfAll_33 : decode cX10_teethOfAll 33 = .ok (.goto (-29), 3) := by decide +kernel
theorem dX10_teethOfAll_36 : decode cX10_teethOfAll 36 = .ok (.iload_n 1, 1) := by decide +kernel
theorem dX10_teethOfAll_37 : decode cX10_teethOfAll 37 = .ok (.ireturn, 1) := by decide +kernel
theorem dX10_nearerWheel_0 : decode cX10_nearerWheel 0 = .ok (.aload_n 0, 1) := by decide +kernel
theorem dX10_nearerWheel_1 : decode cX10_nearerWheel 1 = .ok (.getfield 26, 3) := by decide +kernel
theorem dX10_nearerWheel_4 : decode cX10_nearerWheel 4 = .ok (.getfield 154, 3) := by decide +kernel
theorem dX10_nearerWheel_7 : decode cX10_nearerWheel 7 = .ok (.iload_n 1, 1) := by decide +kernel
theorem dX10_nearerWheel_8 : decode cX10_nearerWheel 8 = .ok (.aaload, 1) := by decide +kernel
theorem dX10_nearerWheel_9 : decode cX10_nearerWheel 9 = .ok (.astore 4, 2) := by decide +kernel
theorem dX10_nearerWheel_11 : decode cX10_nearerWheel 11 = .ok (.aload 4, 2) := by decide +kernel
theorem dX10_nearerWheel_13 : decode cX10_nearerWheel 13 = .ok (.iload_n 2, 1) := by decide +kernel
theorem dX10_nearerWheel_14 : decode cX10_nearerWheel 14 = .ok (.iload_n 3, 1) := by decide +kernel
theorem dX10_nearerWheel_15 : decode cX10_nearerWheel 15 = .ok (.invokevirtual 172, 3) := by decide +kernel
theorem dX10_nearerWheel_18 : decode cX10_nearerWheel 18 = .ok (.istore 5, 2) := by decide +kernel
theorem dX10_nearerWheel_20 : decode cX10_nearerWheel 20 = .ok (.iconst (-1), 1) := by decide +kernel
theorem dX10_nearerWheel_21 : decode cX10_nearerWheel 21 = .ok (.istore 6, 2) := by decide +kernel
theorem dX10_nearerWheel_23 : decode cX10_nearerWheel 23 = .ok (.iconst 0, 1) := by decide +kernel
theorem dX10_nearerWheel_24 : decode cX10_nearerWheel 24 = .ok (.istore 7, 2) := by decide +kernel
theorem dX10_nearerWheel_26 : decode cX10_nearerWheel 26 = .ok (.iload 7, 2) := by decide +kernel
theorem dX10_nearerWheel_28 : decode cX10_nearerWheel 28 = .ok (.aload_n 0, 1) := by decide +kernel
theorem dX10_nearerWheel_29 : decode cX10_nearerWheel 29 = .ok (.getfield 26, 3) := by decide +kernel
theorem dX10_nearerWheel_32 : decode cX10_nearerWheel 32 = .ok (.getfield 121, 3) := by decide +kernel
theorem dX10_nearerWheel_35 : decode cX10_nearerWheel 35 = .ok (.if_icmp .ge 90, 3) := by decide +kernel
theorem dX10_nearerWheel_38 : decode cX10_nearerWheel 38 = .ok (.aload 4, 2) := by decide +kernel
theorem dX10_nearerWheel_40 : decode cX10_nearerWheel 40 = .ok (.iload_n 2, 1) := by decide +kernel
theorem dX10_nearerWheel_41 : decode cX10_nearerWheel 41 = .ok (.iload_n 3, 1) := by decide +kernel
theorem dX10_nearerWheel_42 : decode cX10_nearerWheel 42 = .ok (.aload_n 0, 1) := by decide +kernel
theorem dX10_nearerWheel_43 : decode cX10_nearerWheel 43 = .ok (.getfield 26, 3) := by decide +kernel
theorem dX10_nearerWheel_46 : decode cX10_nearerWheel 46 = .ok (.getfield 178, 3) := by decide +kernel
theorem dX10_nearerWheel_49 : decode cX10_nearerWheel 49 = .ok (.iload 7, 2) := by decide +kernel
theorem dX10_nearerWheel_51 : decode cX10_nearerWheel 51 = .ok (.iaload, 1) := by decide +kernel
theorem dX10_nearerWheel_52 : decode cX10_nearerWheel 52 = .ok (.invokevirtual 350, 3) := by decide +kernel
theorem dX10_nearerWheel_55 : decode cX10_nearerWheel 55 = .ok (.aload_n 0, 1) := by decide +kernel
theorem dX10_nearerWheel_56 : decode cX10_nearerWheel 56 = .ok (.iload_n 1, 1) := by decide +kernel
theorem dX10_nearerWheel_57 : decode cX10_nearerWheel 57 = .ok (.invokevirtual 210, 3) := by decide +kernel
theorem dX10_nearerWheel_60 : decode cX10_nearerWheel 60 = .ok (.astore 8, 2) := by decide +kernel
theorem dX10_nearerWheel_62 : decode cX10_nearerWheel 62 = .ok (.aload 8, 2) := by decide +kernel
theorem dX10_nearerWheel_64 : decode cX10_nearerWheel 64 = .ok (.getfield 185, 3) := by decide +kernel
theorem dX10_nearerWheel_67 : decode cX10_nearerWheel 67 = .ok (.invokestatic 239, 3) := by decide +kernel
theorem dX10_nearerWheel_70 : decode cX10_nearerWheel 70 = .ok (.aload 8, 2) := by decide +kernel
theorem dX10_nearerWheel_72 : decode cX10_nearerWheel 72 = .ok (.getfield 189, 3) := by decide +kernel
theorem dX10_nearerWheel_75 : decode cX10_nearerWheel 75 = .ok (.aload_n 0, 1) := by decide +kernel
theorem dX10_nearerWheel_76 : decode cX10_nearerWheel 76 = .ok (.getfield 64, 3) := by decide +kernel
theorem dX10_nearerWheel_79 : decode cX10_nearerWheel 79 = .ok (.getfield 185, 3) := by decide +kernel
theorem dX10_nearerWheel_82 : decode cX10_nearerWheel 82 = .ok (.invokestatic 239, 3) := by decide +kernel
theorem dX10_nearerWheel_85 : decode cX10_nearerWheel 85 = .ok (.aload_n 0, 1) := by decide +kernel
theorem dX10_nearerWheel_86 : decode cX10_nearerWheel 86 = .ok (.getfield 64, 3) := by decide +kernel
theorem dX10_nearerWheel_89 : decode cX10_nearerWheel 89 = .ok (.getfield 189, 3) := by decide +kernel
theorem dX10_nearerWheel_92 : decode cX10_nearerWheel 92 = .ok (.invokestatic 419, 3) := by decide +kernel
theorem dX10_nearerWheel_95 : decode cX10_nearerWheel 95 = .ok (.ifCond .ge 24, 3) := by decide +kernel
theorem dX10_nearerWheel_98 : decode cX10_nearerWheel 98 = .ok (.aload_n 0, 1) := by decide +kernel
theorem dX10_nearerWheel_99 : decode cX10_nearerWheel 99 = .ok (.getfield 64, 3) := by decide +kernel
theorem dX10_nearerWheel_102 : decode cX10_nearerWheel 102 = .ok (.aload 8, 2) := by decide +kernel
theorem dX10_nearerWheel_104 : decode cX10_nearerWheel 104 = .ok (.invokevirtual 343, 3) := by decide +kernel
theorem dX10_nearerWheel_107 : decode cX10_nearerWheel 107 = .ok (.aload_n 0, 1) := by decide +kernel
theorem dX10_nearerWheel_108 : decode cX10_nearerWheel 108 = .ok (.getfield 26, 3) := by decide +kernel
theorem dX10_nearerWheel_111 : decode cX10_nearerWheel 111 = .ok (.getfield 178, 3) := by decide +kernel
theorem dX10_nearerWheel_114 : decode cX10_nearerWheel 114 = .ok (.iload 7, 2) := by decide +kernel
theorem dX10_nearerWheel_116 : decode cX10_nearerWheel 116 = .ok (.iaload, 1) := by decide +kernel
theorem dX10_nearerWheel_117 : decode cX10_nearerWheel 117 = .ok (.istore 6, 2) := by decide +kernel
theorem dX10_nearerWheel_119 : decode cX10_nearerWheel 119 = .ok (.iinc 7 1, 3) := by decide +kernel
theorem dX10_nearerWheel_122 : decode cX10_nearerWheel 122 = .ok (.goto (-96), 3) := by decide +kernel
theorem dX10_nearerWheel_125 : decode cX10_nearerWheel 125 = .ok (.aload 4, 2) := by decide +kernel
theorem dX10_nearerWheel_127 : decode cX10_nearerWheel 127 = .ok (.iload_n 2, 1) := by decide +kernel
theorem dX10_nearerWheel_128 : decode cX10_nearerWheel 128 = .ok (.iload_n 3, 1) := by decide +kernel
theorem dX10_nearerWheel_129 : decode cX10_nearerWheel 129 = .ok (.iload 5, 2) := by decide +kernel
theorem dX10_nearerWheel_131 : decode cX10_nearerWheel 131 = .ok (.invokevirtual 350, 3) := by decide +kernel
theorem dX10_nearerWheel_134 : decode cX10_nearerWheel 134 = .ok (.iload 6, 2) := by decide +kernel
theorem dX10_nearerWheel_136 : decode cX10_nearerWheel 136 = .ok (.ireturn, 1) := by decide +kernel
theorem dX10_needBody_0 : decode cX10_needBody 0 = .ok (.iload_n 1, 1) := by decide +kernel
theorem dX10_needBody_1 : decode cX10_needBody 1 = .ok (.ifCond .lt 14, 3) := by decide +kernel
theorem dX10_needBody_4 : decode cX10_needBody 4 = .ok (.iload_n 1, 1) := by decide +kernel
theorem dX10_needBody_5 : decode cX10_needBody 5 = .ok (.aload_n 0, 1) := by decide +kernel
theorem dX10_needBody_6 : decode cX10_needBody 6 = .ok (.getfield 19, 3) := by decide +kernel
theorem dX10_needBody_9 : decode cX10_needBody 9 = .ok (.getfield 108, 3) := by decide +kernel
theorem dX10_needBody_12 : decode cX10_needBody 12 = .ok (.if_icmp .lt 14, 3) := by decide +kernel
theorem dX10_needBody_15 : decode cX10_needBody 15 = .ok (.new 423, 3) := by decide +kernel
theorem dX10_needBody_18 : decode cX10_needBody 18 = .ok (.dup, 1) := by decide +kernel
theorem dX10_needBody_19 : decode cX10_needBody 19 = .ok (.ldc_w 425, 3) := by decide +kernel
theorem dX10_needBody_22 : decode cX10_needBody 22 = .ok (.invokespecial 427, 3) := by decide +kernel
theorem dX10_needBody_25 : decode cX10_needBody 25 = .ok (.athrow, 1) := by decide +kernel
theorem dX10_needBody_26 : decode cX10_needBody 26 = .ok (.return_, 1) := by decide +kernel
theorem dX10_needTwoBodies_0 : decode cX10_needTwoBodies 0 = .ok (.aload_n 0, 1) := by decide +kernel
theorem dX10_needTwoBodies_1 : decode cX10_needTwoBodies 1 = .ok (.iload_n 1, 1) := by decide +kernel
theorem dX10_needTwoBodies_2 : decode cX10_needTwoBodies 2 = .ok (.invokevirtual 140, 3) := by decide +kernel
theorem dX10_needTwoBodies_5 : decode cX10_needTwoBodies 5 = .ok (.aload_n 0, 1) := by decide +kernel
theorem dX10_needTwoBodies_6 : decode cX10_needTwoBodies 6 = .ok (.iload_n 2, 1) := by decide +kernel
theorem dX10_needTwoBodies_7 : decode cX10_needTwoBodies 7 = .ok (.invokevirtual 140, 3) := by decide +kernel
theorem dX10_needTwoBodies_10 : decode cX10_needTwoBodies 10 = .ok (.iload_n 1, 1) := by decide +kernel
theorem dX10_needTwoBodies_11 : decode cX10_needTwoBodies 11 = .ok (.iload_n 2, 1) := by decide +kernel
theorem dX10_needTwoBodies_12 : decode cX10_needTwoBodies 12 = .ok (.if_icmp .ne 14, 3) := by decide +kernel
theorem dX10_needTwoBodies_15 : decode cX10_needTwoBodies 15 = .ok (.new 245, 3) := by decide +kernel
theorem dX10_needTwoBodies_18 : decode cX10_needTwoBodies 18 = .ok (.dup, 1) := by decide +kernel
theorem dX10_needTwoBodies_19 : decode cX10_needTwoBodies 19 = .ok (.ldc_w 428, 3) := by decide +kernel
theorem dX10_needTwoBodies_22 : decode cX10_needTwoBodies 22 = .ok (.invokespecial 249, 3) := by decide +kernel
theorem dX10_needTwoBodies_25 : decode cX10_needTwoBodies 25 = .ok (.athrow, 1) := by decide +kernel
theorem dX10_needTwoBodies_26 : decode cX10_needTwoBodies 26 = .ok (.return_, 1) := by decide +kernel
theorem dX10_needWithin_0 : decode cX10_needWithin 0 = .ok (.iload_n 0, 1) := by decide +kernel
theorem dX10_needWithin_1 : decode cX10_needWithin 1 = .ok (.iload_n 1, 1) := by decide +kernel
theorem dX10_needWithin_2 : decode cX10_needWithin 2 = .ok (.if_icmp .lt 8, 3) := by decide +kernel
theorem dX10_needWithin_5 : decode cX10_needWithin 5 = .ok (.iload_n 0, 1) := by decide +kernel
theorem dX10_needWithin_6 : decode cX10_needWithin 6 = .ok (.iload_n 2, 1) := by decide +kernel
theorem dX10_needWithin_7 : decode cX10_needWithin 7 = .ok (.if_icmp .le 14, 3) := by decide +kernel
theorem dX10_needWithin_10 : decode cX10_needWithin 10 = .ok (.new 245, 3) := by decide +kernel
theorem dX10_needWithin_13 : decode cX10_needWithin 13 = .ok (.dup, 1) := by decide +kernel
theorem dX10_needWithin_14 : decode cX10_needWithin 14 = .ok (.ldc_w 430, 3) := by decide +kernel
theorem dX10_needWithin_17 : decode cX10_needWithin 17 = .ok (.invokespecial 249, 3) := by decide +kernel
theorem dX10_needWithin_20 : decode cX10_needWithin 20 = .ok (.athrow, 1) := by decide +kernel
theorem dX10_needWithin_21 : decode cX10_needWithin 21 = .ok (.return_, 1) := by decide +kernel
theorem dX10_needYear_0 : decode cX10_needYear 0 = .ok (.iload_n 1, 1) := by decide +kernel
theorem dX10_needYear_1 : decode cX10_needYear 1 = .ok (.aload_n 0, 1) := by decide +kernel
theorem dX10_needYear_2 : decode cX10_needYear 2 = .ok (.getfield 19, 3) := by decide +kernel
theorem dX10_needYear_5 : decode cX10_needYear 5 = .ok (.getfield 124, 3) := by decide +kernel
theorem dX10_needYear_8 : decode cX10_needYear 8 = .ok (.aload_n 0, 1) := by decide +kernel
theorem dX10_needYear_9 : decode cX10_needYear 9 = .ok (.getfield 19, 3) := by decide +kernel
theorem dX10_needYear_12 : decode cX10_needYear 12 = .ok (.getfield 124, 3) := by decide +kernel
theorem dX10_needYear_15 : decode cX10_needYear 15 = .ok (.sipush 1000, 3) := by decide +kernel
theorem dX10_needYear_18 : decode cX10_needYear 18 = .ok (.iadd, 1) := by decide +kernel
theorem dX10_needYear_19 : decode cX10_needYear 19 = .ok (.iconst 1, 1) := by decide +kernel
theorem dX10_needYear_20 : decode cX10_needYear 20 = .ok (.isub, 1) := by decide +kernel
theorem dX10_needYear_21 : decode cX10_needYear 21 = .ok (.invokestatic 117, 3) := by decide +kernel
theorem dX10_needYear_24 : decode cX10_needYear 24 = .ok (.return_, 1) := by decide +kernel
theorem dX10_needYears_0 : decode cX10_needYears 0 = .ok (.aload_n 0, 1) := by decide +kernel
theorem dX10_needYears_1 : decode cX10_needYears 1 = .ok (.iload_n 1, 1) := by decide +kernel
theorem dX10_needYears_2 : decode cX10_needYears 2 = .ok (.invokevirtual 192, 3) := by decide +kernel
theorem dX10_needYears_5 : decode cX10_needYears 5 = .ok (.aload_n 0, 1) := by decide +kernel
theorem dX10_needYears_6 : decode cX10_needYears 6 = .ok (.iload_n 2, 1) := by decide +kernel
theorem dX10_needYears_7 : decode cX10_needYears 7 = .ok (.invokevirtual 192, 3) := by decide +kernel
theorem dX10_needYears_10 : decode cX10_needYears 10 = .ok (.iload_n 2, 1) := by decide +kernel
theorem dX10_needYears_11 : decode cX10_needYears 11 = .ok (.iload_n 1, 1) := by decide +kernel
theorem dX10_needYears_12 : decode cX10_needYears 12 = .ok (.if_icmp .ge 14, 3) := by decide +kernel
theorem dX10_needYears_15 : decode cX10_needYears 15 = .ok (.new 245, 3) := by decide +kernel
theorem dX10_needYears_18 : decode cX10_needYears 18 = .ok (.dup, 1) := by decide +kernel
theorem dX10_needYears_19 : decode cX10_needYears 19 = .ok (.ldc_w 432, 3) := by decide +kernel
theorem dX10_needYears_22 : decode cX10_needYears 22 = .ok (.invokespecial 249, 3) := by decide +kernel
theorem dX10_needYears_25 : decode cX10_needYears 25 = .ok (.athrow, 1) := by decide +kernel
theorem dX10_needYears_26 : decode cX10_needYears 26 = .ok (.return_, 1) := by decide +kernel
theorem dX11_init_0 : decode cX11_init 0 = .ok (.aload_n 0, 1) := by decide +kernel
theorem dX11_init_1 : decode cX11_init 1 = .ok (.invokespecial 1, 3) := by decide +kernel
theorem dX11_init_4 : decode cX11_init 4 = .ok (.aload_n 0, 1) := by decide +kernel
theorem dX11_init_5 : decode cX11_init 5 = .ok (.bipush 26, 2) := by decide +kernel
theorem dX11_init_7 : decode cX11_init 7 = .ok (.newarray .int, 2) := by decide +kernel
theorem dX11_init_9 : decode cX11_init 9 = .ok (.putfield 7, 3) := by decide +kernel
theorem dX11_init_12 : decode cX11_init 12 = .ok (.aload_n 0, 1) := by decide +kernel
theorem dX11_init_13 : decode cX11_init 13 = .ok (.bipush 26, 2) := by decide +kernel
theorem dX11_init_15 : decode cX11_init 15 = .ok (.newarray .int, 2) := by decide +kernel
theorem dX11_init_17 : decode cX11_init 17 = .ok (.putfield 13, 3) := by decide +kernel
theorem dX11_init_20 : decode cX11_init 20 = .ok (.aload_n 0, 1) := by decide +kernel
theorem dX11_init_21 : decode cX11_init 21 = .ok (.bipush 64, 2) := by decide +kernel
theorem dX11_init_23 : decode cX11_init 23 = .ok (.newarray .int, 2) := by decide +kernel
theorem dX11_init_25 : decode cX11_init 25 = .ok (.putfield 16, 3) := by decide +kernel
theorem dX11_init_28 : decode cX11_init 28 = .ok (.aload_n 0, 1) := by decide +kernel
theorem dX11_init_29 : decode cX11_init 29 = .ok (.bipush 64, 2) := by decide +kernel
theorem dX11_init_31 : decode cX11_init 31 = .ok (.newarray .int, 2) := by decide +kernel
theorem dX11_init_33 : decode cX11_init 33 = .ok (.putfield 19, 3) := by decide +kernel
theorem dX11_init_36 : decode cX11_init 36 = .ok (.aload_n 0, 1) := by decide +kernel
theorem dX11_init_37 : decode cX11_init 37 = .ok (.sipush 131, 3) := by decide +kernel
theorem dX11_init_40 : decode cX11_init 40 = .ok (.newarray .int, 2) := by decide +kernel
theorem dX11_init_42 : decode cX11_init 42 = .ok (.putfield 22, 3) := by decide +kernel
theorem dX11_init_45 : decode cX11_init 45 = .ok (.aload_n 0, 1) := by decide +kernel
theorem dX11_init_46 : decode cX11_init 46 = .ok (.sipush 131, 3) := by decide +kernel
theorem dX11_init_49 : decode cX11_init 49 = .ok (.newarray .int, 2) := by decide +kernel
theorem dX11_init_51 : decode cX11_init 51 = .ok (.putfield 25, 3) := by decide +kernel
theorem dX11_init_54 : decode cX11_init 54 = .ok (.aload_n 0, 1) := by decide +kernel
theorem dX11_init_55 : decode cX11_init 55 = .ok (.sipush 131, 3) := by decide +kernel
theorem dX11_init_58 : decode cX11_init 58 = .ok (.newarray .int, 2) := by decide +kernel
theorem dX11_init_60 : decode cX11_init 60 = .ok (.putfield 28, 3) := by decide +kernel
theorem dX11_init_63 : decode cX11_init 63 = .ok (.aload_n 0, 1) := by decide +kernel
theorem dX11_init_64 : decode cX11_init 64 = .ok (.sipush 1572, 3) := by decide +kernel
theorem dX11_init_67 : decode cX11_init 67 = .ok (.newarray .int, 2) := by decide +kernel
theorem dX11_init_69 : decode cX11_init 69 = .ok (.putfield 31, 3) := by decide +kernel
theorem dX11_init_72 : decode cX11_init 72 = .ok (.aload_n 0, 1) := by decide +kernel
theorem dX11_init_73 : decode cX11_init 73 = .ok (.sipush 900, 3) := by decide +kernel
theorem dX11_init_76 : decode cX11_init 76 = .ok (.newarray .int, 2) := by decide +kernel
theorem dX11_init_78 : decode cX11_init 78 = .ok (.putfield 34, 3) := by decide +kernel
theorem dX11_init_81 : decode cX11_init 81 = .ok (.aload_n 0, 1) := by decide +kernel
theorem dX11_init_82 : decode cX11_init 82 = .ok (.iconst (-1), 1) := by decide +kernel
theorem dX11_init_83 : decode cX11_init 83 = .ok (.putfield 37, 3) := by decide +kernel
theorem dX11_init_86 : decode cX11_init 86 = .ok (.aload_n 0, 1) := by decide +kernel
theorem dX11_init_87 : decode cX11_init 87 = .ok (.iconst 4, 1) := by decide +kernel
theorem dX11_init_88 : decode cX11_init 88 = .ok (.newarray .int, 2) := by decide +kernel
theorem dX11_init_90 : decode cX11_init 90 = .ok (.putfield 41, 3) := by decide +kernel
theorem dX11_init_93 : decode cX11_init 93 = .ok (.aload_n 0, 1) := by decide +kernel
theorem dX11_init_94 : decode cX11_init 94 = .ok (.sipush 1200, 3) := by decide +kernel
theorem dX11_init_97 : decode cX11_init 97 = .ok (.newarray .int, 2) := by decide +kernel
theorem dX11_init_99 : decode cX11_init 99 = .ok (.putfield 44, 3) := by decide +kernel
theorem dX11_init_102 : decode cX11_init 102 = .ok (.aload_n 0, 1) := by decide +kernel
theorem dX11_init_103 : decode cX11_init 103 = .ok (.invokevirtual 47, 3) := by decide +kernel
theorem dX11_init_106 : decode cX11_init 106 = .ok (.return_, 1) := by decide +kernel
theorem dX11_thrown_0 : decode cX11_thrown 0 = .ok (.aload_n 0, 1) := by decide +kernel
theorem dX11_thrown_1 : decode cX11_thrown 1 = .ok (.getfield 50, 3) := by decide +kernel
theorem dX11_thrown_4 : decode cX11_thrown 4 = .ok (.ireturn, 1) := by decide +kernel
theorem dX11_inRange_0 : decode cX11_inRange 0 = .ok (.lload_n 0, 1) := by decide +kernel
theorem dX11_inRange_1 : decode cX11_inRange 1 = .ok (.lload_n 2, 1) := by decide +kernel
theorem dX11_inRange_2 : decode cX11_inRange 2 = .ok (.lcmp, 1) := by decide +kernel
theorem dX11_inRange_3 : decode cX11_inRange 3 = .ok (.ifCond .lt 14, 3) := by decide +kernel
theorem dX11_inRange_6 : decode cX11_inRange 6 = .ok (.lload_n 0, 1) := by decide +kernel
theorem dX11_inRange_7 : decode cX11_inRange 7 = .ok (.lload 4, 2) := by decide +kernel
theorem dX11_inRange_9 : decode cX11_inRange 9 = .ok (.lcmp, 1) := by decide +kernel
theorem dX11_inRange_10 : decode cX11_inRange 10 = .ok (.ifCond .gt 7, 3) := by decide +kernel
theorem dX11_inRange_13 : decode cX11_inRange 13 = .ok (.iconst 1, 1) := by decide +kernel
theorem dX11_inRange_14 : decode cX11_inRange 14 = .ok (.goto 4, 3) := by decide +kernel
theorem dX11_inRange_17 : decode cX11_inRange 17 = .ok (.iconst 0, 1) := by decide +kernel
theorem dX11_inRange_18 : decode cX11_inRange 18 = .ok (.ireturn, 1) := by decide +kernel
theorem dX11_fails_0 : decode cX11_fails 0 = .ok (.iload_n 1, 1) := by decide +kernel
theorem dX11_fails_1 : decode cX11_fails 1 = .ok (.ifCond .eq 8, 3) := by decide +kernel
theorem dX11_fails_4 : decode cX11_fails 4 = .ok (.aload_n 0, 1) := by decide +kernel
theorem dX11_fails_5 : decode cX11_fails 5 = .ok (.iload_n 2, 1) := by decide +kernel
theorem dX11_fails_6 : decode cX11_fails 6 = .ok (.putfield 50, 3) := by decide +kernel
theorem dX11_fails_9 : decode cX11_fails 9 = .ok (.iload_n 1, 1) := by decide +kernel
theorem dX11_fails_10 : decode cX11_fails 10 = .ok (.ireturn, 1) := by decide +kernel
theorem dX11_copies_0 : decode cX11_copies 0 = .ok (.iconst 0, 1) := by decide +kernel
theorem dX11_copies_1 : decode cX11_copies 1 = .ok (.istore 5, 2) := by decide +kernel
theorem dX11_copies_3 : decode cX11_copies 3 = .ok (.iload 5, 2) := by decide +kernel
theorem dX11_copies_5 : decode cX11_copies 5 = .ok (.iload 4, 2) := by decide +kernel
theorem dX11_copies_7 : decode cX11_copies 7 = .ok (.if_icmp .ge 21, 3) := by decide +kernel
theorem dX11_copies_10 : decode cX11_copies 10 = .ok (.aload_n 2, 1) := by decide +kernel
theorem dX11_copies_11 : decode cX11_copies 11 = .ok (.iload_n 3, 1) := by decide +kernel
theorem dX11_copies_12 : decode cX11_copies 12 = .ok (.iload 5, 2) := by decide +kernel
theorem dX11_copies_14 : decode cX11_copies 14 = .ok (.iadd, 1) := by decide +kernel
theorem dX11_copies_15 : decode cX11_copies 15 = .ok (.aload_n 0, 1) := by decide +kernel
theorem dX11_copies_16 : decode cX11_copies 16 = .ok (.iload_n 1, 1) := by decide +kernel
theorem dX11_copies_17 : decode cX11_copies 17 = .ok (.iload 5, 2) := by decide +kernel
theorem dX11_copies_19 : decode cX11_copies 19 = .ok (.iadd, 1) := by decide +kernel
theorem dX11_copies_20 : decode cX11_copies 20 = .ok (.iaload, 1) := by decide +kernel
theorem dX11_copies_21 : decode cX11_copies 21 = .ok (.iastore, 1) := by decide +kernel
theorem dX11_copies_22 : decode cX11_copies 22 = .ok (.iinc 5 1, 3) := by decide +kernel
theorem dX11_copies_25 : decode cX11_copies 25 = .ok (.goto (-22), 3) := by decide +kernel
theorem dX11_copies_28 : decode cX11_copies 28 = .ok (.return_, 1) := by decide +kernel
theorem dX11_of_0 : decode cX11_of 0 = .ok (.aload_n 0, 1) := by decide +kernel
theorem dX11_of_1 : decode cX11_of 1 = .ok (.getfield 7, 3) := by decide +kernel
theorem dX11_of_4 : decode cX11_of 4 = .ok (.iconst 2, 1) := by decide +kernel
theorem dX11_of_5 : decode cX11_of 5 = .ok (.iconst 3, 1) := by decide +kernel
theorem dX11_of_6 : decode cX11_of 6 = .ok (.iload_n 1, 1) := by decide +kernel
theorem dX11_of_7 : decode cX11_of 7 = .ok (.imul, 1) := by decide +kernel
theorem dX11_of_8 : decode cX11_of 8 = .ok (.iadd, 1) := by decide +kernel
theorem dX11_of_9 : decode cX11_of 9 = .ok (.iload_n 2, 1) := by decide +kernel
theorem dX11_of_10 : decode cX11_of 10 = .ok (.iadd, 1) := by decide +kernel
theorem dX11_of_11 : decode cX11_of 11 = .ok (.iaload, 1) := by decide +kernel
theorem dX11_of_12 : decode cX11_of 12 = .ok (.ireturn, 1) := by decide +kernel
theorem dX11_trainAt_0 : decode cX11_trainAt 0 = .ok (.bipush 19, 2) := by decide +kernel
theorem dX11_trainAt_2 : decode cX11_trainAt 2 = .ok (.bipush 14, 2) := by decide +kernel
theorem dX11_trainAt_4 : decode cX11_trainAt 4 = .ok (.iload_n 0, 1) := by decide +kernel
theorem dX11_trainAt_5 : decode cX11_trainAt 5 = .ok (.imul, 1) := by decide +kernel
theorem dX11_trainAt_6 : decode cX11_trainAt 6 = .ok (.iadd, 1) := by decide +kernel
theorem dX11_trainAt_7 : decode cX11_trainAt 7 = .ok (.iload_n 1, 1) := by decide +kernel
theorem dX11_trainAt_8 : decode cX11_trainAt 8 = .ok (.iadd, 1) := by decide +kernel
theorem dX11_trainAt_9 : decode cX11_trainAt 9 = .ok (.ireturn, 1) := by decide +kernel
theorem dX11_parts_0 : decode cX11_parts 0 = .ok (.aload_n 0, 1) := by decide +kernel
theorem dX11_parts_1 : decode cX11_parts 1 = .ok (.getfield 22, 3) := by decide +kernel
theorem dX11_parts_4 : decode cX11_parts 4 = .ok (.iload_n 1, 1) := by decide +kernel
theorem dX11_parts_5 : decode cX11_parts 5 = .ok (.iconst 0, 1) := by decide +kernel
theorem dX11_parts_6 : decode cX11_parts 6 = .ok (.invokestatic 53, 3) := by decide +kernel
theorem dX11_parts_9 : decode cX11_parts 9 = .ok (.iaload, 1) := by decide +kernel
theorem dX11_parts_10 : decode cX11_parts 10 = .ok (.ireturn, 1) := by decide +kernel
theorem dX11_partOf_0 : decode cX11_partOf 0 = .ok (.aload_n 0, 1) := by decide +kernel
theorem dX11_partOf_1 : decode cX11_partOf 1 = .ok (.getfield 22, 3) := by decide +kernel
theorem dX11_partOf_4 : decode cX11_partOf 4 = .ok (.iload_n 1, 1) := by decide +kernel
theorem dX11_partOf_5 : decode cX11_partOf 5 = .ok (.iconst 2, 1) := by decide +kernel
theorem dX11_partOf_6 : decode cX11_partOf 6 = .ok (.iconst 3, 1) := by decide +kernel
theorem dX11_partOf_7 : decode cX11_partOf 7 = .ok (.iload_n 2, 1) := by decide +kernel
theorem dX11_partOf_8 : decode cX11_partOf 8 = .ok (.imul, 1) := by decide +kernel
theorem dX11_partOf_9 : decode cX11_partOf 9 = .ok (.iadd, 1) := by decide +kernel
theorem dX11_partOf_10 : decode cX11_partOf 10 = .ok (.iload_n 3, 1) := by decide +kernel
theorem dX11_partOf_11 : decode cX11_partOf 11 = .ok (.iadd, 1) := by decide +kernel
theorem dX11_partOf_12 : decode cX11_partOf 12 = .ok (.invokestatic 53, 3) := by decide +kernel
theorem dX11_partOf_15 : decode cX11_partOf 15 = .ok (.iaload, 1) := by decide +kernel
theorem dX11_partOf_16 : decode cX11_partOf 16 = .ok (.ireturn, 1) := by decide +kernel
theorem dX11_clear_0 : decode cX11_clear 0 = .ok (.iconst 0, 1) := by decide +kernel
theorem dX11_clear_1 : decode cX11_clear 1 = .ok (.istore_n 1, 1) := by decide +kernel
theorem dX11_clear_2 : decode cX11_clear 2 = .ok (.iload_n 1, 1) := by decide +kernel
theorem dX11_clear_3 : decode cX11_clear 3 = .ok (.bipush 26, 2) := by decide +kernel
theorem dX11_clear_5 : decode cX11_clear 5 = .ok (.if_icmp .ge 16, 3) := by decide +kernel
theorem dX11_clear_8 : decode cX11_clear 8 = .ok (.aload_n 0, 1) := by decide +kernel
theorem dX11_clear_9 : decode cX11_clear 9 = .ok (.getfield 7, 3) := by decide +kernel
theorem dX11_clear_12 : decode cX11_clear 12 = .ok (.iload_n 1, 1) := by decide +kernel
theorem dX11_clear_13 : decode cX11_clear 13 = .ok (.iconst 0, 1) := by decide +kernel
theorem dX11_clear_14 : decode cX11_clear 14 = .ok (.iastore, 1) := by decide +kernel
theorem dX11_clear_15 : decode cX11_clear 15 = .ok (.iinc 1 1, 3) := by decide +kernel
theorem dX11_clear_18 : decode cX11_clear 18 = .ok (.goto (-16), 3) := by decide +kernel
theorem dX11_clear_21 : decode cX11_clear 21 = .ok (.aload_n 0, 1) := by decide +kernel
theorem dX11_clear_22 : decode cX11_clear 22 = .ok (.getfield 7, 3) := by decide +kernel
theorem dX11_clear_25 : decode cX11_clear 25 = .ok (.iconst 1, 1) := by decide +kernel
theorem dX11_clear_26 : decode cX11_clear 26 = .ok (.sipush 2000, 3) := by decide +kernel
theorem dX11_clear_29 : decode cX11_clear 29 = .ok (.iastore, 1) := by decide +kernel
theorem dX11_clear_30 : decode cX11_clear 30 = .ok (.iconst 0, 1) := by decide +kernel
theorem dX11_clear_31 : decode cX11_clear 31 = .ok (.istore_n 1, 1) := by decide +kernel
theorem dX11_clear_32 : decode cX11_clear 32 = .ok (.iload_n 1, 1) := by decide +kernel
theorem dX11_clear_33 : decode cX11_clear 33 = .ok (.sipush 131, 3) := by decide +kernel
theorem dX11_clear_36 : decode cX11_clear 36 = .ok (.if_icmp .ge 16, 3) := by decide +kernel
theorem dX11_clear_39 : decode cX11_clear 39 = .ok (.aload_n 0, 1) := by decide +kernel
theorem dX11_clear_40 : decode cX11_clear 40 = .ok (.getfield 22, 3) := by decide +kernel
theorem dX11_clear_43 : decode cX11_clear 43 = .ok (.iload_n 1, 1) := by decide +kernel
theorem dX11_clear_44 : decode cX11_clear 44 = .ok (.iconst 0, 1) := by decide +kernel
theorem dX11_clear_45 : decode cX11_clear 45 = .ok (.iastore, 1) := by decide +kernel
theorem dX11_clear_46 : decode cX11_clear 46 = .ok (.iinc 1 1, 3) := by decide +kernel
theorem dX11_clear_49 : decode cX11_clear 49 = .ok (.goto (-17), 3) := by decide +kernel
theorem dX11_clear_52 : decode cX11_clear 52 = .ok (.aload_n 0, 1) := by decide +kernel
theorem dX11_clear_53 : decode cX11_clear 53 = .ok (.getfield 22, 3) := by decide +kernel
theorem dX11_clear_56 : decode cX11_clear 56 = .ok (.bipush 17, 2) := by decide +kernel
theorem dX11_clear_58 : decode cX11_clear 58 = .ok (.bipush 60, 2) := by decide +kernel
theorem dX11_clear_60 : decode cX11_clear 60 = .ok (.iastore, 1) := by decide +kernel
theorem dX11_clear_61 : decode cX11_clear 61 = .ok (.return_, 1) := by decide +kernel
theorem dX11_remembers_0 : decode cX11_remembers 0 = .ok (.aload_n 0, 1) := by decide +kernel
theorem dX11_remembers_1 : decode cX11_remembers 1 = .ok (.getfield 57, 3) := by decide +kernel
theorem dX11_remembers_4 : decode cX11_remembers 4 = .ok (.bipush 12, 2) := by decide +kernel
theorem dX11_remembers_6 : decode cX11_remembers 6 = .ok (.if_icmp .ne 31, 3) := by decide +kernel
theorem dX11_remembers_9 : decode cX11_remembers 9 = .ok (.aload_n 0, 1) := by decide +kernel
theorem dX11_remembers_10 : decode cX11_remembers 10 = .ok (.getfield 31, 3) := by decide +kernel
theorem dX11_remembers_13 : decode cX11_remembers 13 = .ok (.sipush 131, 3) := by decide +kernel
theorem dX11_remembers_16 : decode cX11_remembers 16 = .ok (.aload_n 0, 1) := by decide +kernel
theorem dX11_remembers_17 : decode cX11_remembers 17 = .ok (.getfield 31, 3) := by decide +kernel
theorem dX11_remembers_20 : decode cX11_remembers 20 = .ok (.iconst 0, 1) := by decide +kernel
theorem dX11_remembers_21 : decode cX11_remembers 21 = .ok (.sipush 1441, 3) := by decide +kernel
theorem dX11_remembers_24 : decode cX11_remembers 24 = .ok (.invokestatic 60, 3) := by decide +kernel
theorem dX11_remembers_27 : decode cX11_remembers 27 = .ok (.aload_n 0, 1) := by decide +kernel
theorem dX11_remembers_28 : decode cX11_remembers 28 = .ok (.dup, 1) := by decide +kernel
theorem dX11_remembers_29 : decode cX11_remembers 29 = .ok (.getfield 57, 3) := by decide +kernel
theorem dX11_remembers_32 : decode cX11_remembers 32 = .ok (.iconst 1, 1) := by decide +kernel
theorem dX11_remembers_33 : decode cX11_remembers 33 = .ok (.isub, 1) := by decide +kernel
theorem dX11_remembers_34 : decode cX11_remembers 34 = .ok (.putfield 57, 3) := by decide +kernel
theorem dX11_remembers_37 : decode cX11_remembers 37 = .ok (.aload_n 0, 1) := by decide +kernel
theorem dX11_remembers_38 : decode cX11_remembers 38 = .ok (.getfield 22, 3) := by decide +kernel
theorem dX11_remembers_41 : decode cX11_remembers 41 = .ok (.iconst 0, 1) := by decide +kernel
theorem dX11_remembers_42 : decode cX11_remembers 42 = .ok (.aload_n 0, 1) := by decide +kernel
theorem dX11_remembers_43 : decode cX11_remembers 43 = .ok (.getfield 31, 3) := by decide +kernel
theorem dX11_remembers_46 : decode cX11_remembers 46 = .ok (.sipush 131, 3) := by decide +kernel
theorem dX11_remembers_49 : decode cX11_remembers 49 = .ok (.aload_n 0, 1) := by decide +kernel
theorem dX11_remembers_50 : decode cX11_remembers 50 = .ok (.getfield 57, 3) := by decide +kernel
theorem dX11_remembers_53 : decode cX11_remembers 53 = .ok (.imul, 1) := by decide +kernel
theorem dX11_remembers_54 : decode cX11_remembers 54 = .ok (.sipush 131, 3) := by decide +kernel
theorem dX11_remembers_57 : decode cX11_remembers 57 = .ok (.invokestatic 60, 3) := by decide +kernel
theorem dX11_remembers_60 : decode cX11_remembers 60 = .ok (.aload_n 0, 1) := by decide +kernel
theorem dX11_remembers_61 : decode cX11_remembers 61 = .ok (.dup, 1) := by decide +kernel
theorem dX11_remembers_62 : decode cX11_remembers 62 = .ok (.getfield 57, 3) := by decide +kernel
theorem dX11_remembers_65 : decode cX11_remembers 65 = .ok (.iconst 1, 1) := by decide +kernel
theorem dX11_remembers_66 : decode cX11_remembers 66 = .ok (.iadd, 1) := by decide +kernel
theorem dX11_remembers_67 : decode cX11_remembers 67 = .ok (.putfield 57, 3) := by decide +kernel
theorem dX11_remembers_70 : decode cX11_remembers 70 = .ok (.return_, 1) := by decide +kernel
theorem dX11_appendWord_0 : decode cX11_appendWord 0 = .ok (.bipush 24, 2) := by decide +kernel
theorem dX11_appendWord_2 : decode cX11_appendWord 2 = .ok (.istore_n 2, 1) := by decide +kernel
theorem dX11_appendWord_3 : decode cX11_appendWord 3 = .ok (.iload_n 2, 1) := by decide +kernel
theorem dX11_appendWord_4 : decode cX11_appendWord 4 = .ok (.ifCond .lt 35, 3) := by decide +kernel
theorem dX11_appendWord_7 : decode cX11_appendWord 7 = .ok (.aload_n 0, 1) := by decide +kernel
theorem dX11_appendWord_8 : decode cX11_appendWord 8 = .ok (.getfield 34, 3) := by decide +kernel
theorem dX11_appendWord_11 : decode cX11_appendWord 11 = .ok (.aload_n 0, 1) := by decide +kernel
theorem dX11_appendWord_12 : decode cX11_appendWord 12 = .ok (.getfield 64, 3) := by decide +kernel
theorem dX11_appendWord_15 : decode cX11_appendWord 15 = .ok (.iload_n 1, 1) := by decide +kernel
theorem dX11_appendWord_16 : decode cX11_appendWord 16 = .ok (.iload_n 2, 1) := by decide +kernel
theorem dX11_appendWord_17 : decode cX11_appendWord 17 = .ok (.ishr, 1) := by decide +kernel
theorem dX11_appendWord_18 : decode cX11_appendWord 18 = .ok (.sipush 255, 3) := by decide +kernel
theorem dX11_appendWord_21 : decode cX11_appendWord 21 = .ok (.iand, 1) := by decide +kernel
theorem dX11_appendWord_22 : decode cX11_appendWord 22 = .ok (.iastore, 1) := by decide +kernel
theorem dX11_appendWord_23 : decode cX11_appendWord 23 = .ok (.aload_n 0, 1) := by decide +kernel
theorem dX11_appendWord_24 : decode cX11_appendWord 24 = .ok (.dup, 1) := by decide +kernel
theorem dX11_appendWord_25 : decode cX11_appendWord 25 = .ok (.getfield 64, 3) := by decide +kernel
theorem dX11_appendWord_28 : decode cX11_appendWord 28 = .ok (.iconst 1, 1) := by decide +kernel
theorem dX11_appendWord_29 : decode cX11_appendWord 29 = .ok (.iadd, 1) := by decide +kernel
theorem dX11_appendWord_30 : decode cX11_appendWord 30 = .ok (.putfield 64, 3) := by decide +kernel
theorem dX11_appendWord_33 : decode cX11_appendWord 33 = .ok (.iinc 2 (-8), 3) := by decide +kernel
theorem dX11_appendWord_36 : decode cX11_appendWord 36 = .ok (.goto (-33), 3) := by decide +kernel
theorem dX11_appendWord_39 : decode cX11_appendWord 39 = .ok (.return_, 1) := by decide +kernel
theorem dX11_appendInput_0 : decode cX11_appendInput 0 = .ok (.aload_n 0, 1) := by decide +kernel
theorem dX11_appendInput_1 : decode cX11_appendInput 1 = .ok (.iconst 0, 1) := by decide +kernel
theorem dX11_appendInput_2 : decode cX11_appendInput 2 = .ok (.putfield 50, 3) := by decide +kernel
theorem dX11_appendInput_5 : decode cX11_appendInput 5 = .ok (.aload_n 0, 1) := by decide +kernel
theorem dX11_appendInput_6 : decode cX11_appendInput 6 = .ok (.getfield 64, 3) := by decide +kernel
theorem dX11_appendInput_9 : decode cX11_appendInput 9 = .ok (.bipush 20, 2) := by decide +kernel
theorem dX11_appendInput_11 : decode cX11_appendInput 11 = .ok (.iadd, 1) := by decide +kernel
theorem dX11_appendInput_12 : decode cX11_appendInput 12 = .ok (.sipush 900, 3) := by decide +kernel
theorem dX11_appendInput_15 : decode cX11_appendInput 15 = .ok (.if_icmp .le 5, 3) := by decide +kernel
theorem dX11_appendInput_18 : decode cX11_appendInput 18 = .ok (.iconst (-1), 1) := by decide +kernel
theorem dX11_appendInput_19 : decode cX11_appendInput 19 = .ok (.ireturn, 1) := by decide +kernel
theorem dX11_appendInput_20 : decode cX11_appendInput 20 = .ok (.aload_n 0, 1) := by decide +kernel
theorem dX11_appendInput_21 : decode cX11_appendInput 21 = .ok (.iload_n 1, 1) := by decide +kernel
theorem dX11_appendInput_22 : decode cX11_appendInput 22 = .ok (.invokevirtual 67, 3) := by decide +kernel
theorem dX11_appendInput_25 : decode cX11_appendInput 25 = .ok (.aload_n 0, 1) := by decide +kernel
theorem dX11_appendInput_26 : decode cX11_appendInput 26 = .ok (.iload_n 2, 1) := by decide +kernel
theorem dX11_appendInput_27 : decode cX11_appendInput 27 = .ok (.invokevirtual 67, 3) := by decide +kernel
theorem dX11_appendInput_30 : decode cX11_appendInput 30 = .ok (.aload_n 0, 1) := by decide +kernel
theorem dX11_appendInput_31 : decode cX11_appendInput 31 = .ok (.iload_n 3, 1) := by decide +kernel
theorem dX11_appendInput_32 : decode cX11_appendInput 32 = .ok (.invokevirtual 67, 3) := by decide +kernel
theorem dX11_appendInput_35 : decode cX11_appendInput 35 = .ok (.aload_n 0, 1) := by decide +kernel
theorem dX11_appendInput_36 : decode cX11_appendInput 36 = .ok (.iload 4, 2) := by decide +kernel
theorem dX11_appendInput_38 : decode cX11_appendInput 38 = .ok (.invokevirtual 67, 3) := by decide +kernel
theorem dX11_appendInput_41 : decode cX11_appendInput 41 = .ok (.aload_n 0, 1) := by decide +kernel
theorem dX11_appendInput_42 : decode cX11_appendInput 42 = .ok (.iload 5, 2) := by decide +kernel
theorem dX11_appendInput_44 : decode cX11_appendInput 44 = .ok (.invokevirtual 67, 3) := by decide +kernel
theorem dX11_appendInput_47 : decode cX11_appendInput 47 = .ok (.aload_n 0, 1) := by decide +kernel
theorem dX11_appendInput_48 : decode cX11_appendInput 48 = .ok (.getfield 64, 3) := by decide +kernel
theorem dX11_appendInput_51 : decode cX11_appendInput 51 = .ok (.ireturn, 1) := by decide +kernel
theorem dX11_truncateInput_0 : decode cX11_truncateInput 0 = .ok (.aload_n 0, 1) := by decide +kernel
theorem dX11_truncateInput_1 : decode cX11_truncateInput 1 = .ok (.iconst 0, 1) := by decide +kernel
theorem dX11_truncateInput_2 : decode cX11_truncateInput 2 = .ok (.putfield 50, 3) := by decide +kernel
theorem dX11_truncateInput_5 : decode cX11_truncateInput 5 = .ok (.iload_n 1, 1) := by decide +kernel
theorem dX11_truncateInput_6 : decode cX11_truncateInput 6 = .ok (.i2l, 1) := by decide +kernel
theorem dX11_truncateInput_7 : decode cX11_truncateInput 7 = .ok (.lconst 0, 1) := by decide +kernel
theorem dX11_truncateInput_8 : decode cX11_truncateInput 8 = .ok (.aload_n 0, 1) := by decide +kernel
theorem dX11_truncateInput_9 : decode cX11_truncateInput 9 = .ok (.getfield 64, 3) := by decide +kernel
theorem dX11_truncateInput_12 : decode cX11_truncateInput 12 = .ok (.i2l, 1) := by decide +kernel
theorem dX11_truncateInput_13 : decode cX11_truncateInput 13 = .ok (.invokestatic 71, 3) := by decide +kernel
theorem dX11_truncateInput_16 : decode cX11_truncateInput 16 = .ok (.ifCond .ne 5, 3) := by decide +kernel
theorem dX11_truncateInput_19 : decode cX11_truncateInput 19 = .ok (.iconst 0, 1) := by decide +kernel
theorem dX11_truncateInput_20 : decode cX11_truncateInput 20 = .ok (.ireturn, 1) := by decide +kernel
theorem dX11_truncateInput_21 : decode cX11_truncateInput 21 = .ok (.aload_n 0, 1) := by decide +kernel
theorem dX11_truncateInput_22 : decode cX11_truncateInput 22 = .ok (.iload_n 1, 1) := by decide +kernel
theorem dX11_truncateInput_23 : decode cX11_truncateInput 23 = .ok (.putfield 64, 3) := by decide +kernel
theorem dX11_truncateInput_26 : decode cX11_truncateInput 26 = .ok (.iconst 1, 1) := by decide +kernel
theorem dX11_truncateInput_27 : decode cX11_truncateInput 27 = .ok (.ireturn, 1) := by decide +kernel
theorem dX11_byteAt_0 : decode cX11_byteAt 0 = .ok (.iload_n 1, 1) := by decide +kernel
theorem dX11_byteAt_1 : decode cX11_byteAt 1 = .ok (.aload_n 0, 1) := by decide +kernel
theorem dX11_byteAt_2 : decode cX11_byteAt 2 = .ok (.getfield 64, 3) := by decide +kernel
theorem dX11_byteAt_5 : decode cX11_byteAt 5 = .ok (.if_icmp .ge 12, 3) := by decide +kernel
theorem dX11_byteAt_8 : decode cX11_byteAt 8 = .ok (.aload_n 0, 1) := by decide +kernel
theorem dX11_byteAt_9 : decode cX11_byteAt 9 = .ok (.getfield 34, 3) := by decide +kernel
theorem dX11_byteAt_12 : decode cX11_byteAt 12 = .ok (.iload_n 1, 1) := by decide +kernel
theorem dX11_byteAt_13 : decode cX11_byteAt 13 = .ok (.iaload, 1) := by decide +kernel
theorem dX11_byteAt_14 : decode cX11_byteAt 14 = .ok (.goto 4, 3) := by decide +kernel
theorem dX11_byteAt_17 : decode cX11_byteAt 17 = .ok (.iconst (-1), 1) := by decide +kernel
theorem dX11_byteAt_18 : decode cX11_byteAt 18 = .ok (.ireturn, 1) := by decide +kernel
theorem dX11_advanceToken_0 : decode cX11_advanceToken 0 = .ok (.aload_n 0, 1) := by decide +kernel
theorem dX11_advanceToken_1 : decode cX11_advanceToken 1 = .ok (.aload_n 0, 1) := by decide +kernel
theorem dX11_advanceToken_2 : decode cX11_advanceToken 2 = .ok (.getfield 75, 3) := by decide +kernel
theorem dX11_advanceToken_5 : decode cX11_advanceToken 5 = .ok (.invokevirtual 78, 3) := by decide +kernel
theorem dX11_advanceToken_8 : decode cX11_advanceToken 8 = .ok (.bipush 32, 2) := by decide +kernel
theorem dX11_advanceToken_10 : decode cX11_advanceToken 10 = .ok (.if_icmp .eq 16, 3) := by decide +kernel
theorem dX11_advanceToken_13 : decode cX11_advanceToken 13 = .ok (.aload_n 0, 1) := by decide +kernel
theorem dX11_advanceToken_14 : decode cX11_advanceToken 14 = .ok (.aload_n 0, 1) := by decide +kernel
theorem dX11_advanceToken_15 : decode cX11_advanceToken 15 = .ok (.getfield 75, 3) := by decide +kernel
theorem dX11_advanceToken_18 : decode cX11_advanceToken 18 = .ok (.invokevirtual 78, 3) := by decide +kernel
theorem dX11_advanceToken_21 : decode cX11_advanceToken 21 = .ok (.bipush 10, 2) := by decide +kernel
theorem dX11_advanceToken_23 : decode cX11_advanceToken 23 = .ok (.if_icmp .ne 16, 3) := by decide +kernel
theorem dX11_advanceToken_26 : decode cX11_advanceToken 26 = .ok (.aload_n 0, 1) := by decide +kernel
theorem dX11_advanceToken_27 : decode cX11_advanceToken 27 = .ok (.dup, 1) := by decide +kernel
theorem dX11_advanceToken_28 : decode cX11_advanceToken 28 = .ok (.getfield 75, 3) := by decide +kernel
theorem dX11_advanceToken_31 : decode cX11_advanceToken 31 = .ok (.iconst 1, 1) := by decide +kernel
theorem dX11_advanceToken_32 : decode cX11_advanceToken 32 = .ok (.iadd, 1) := by decide +kernel
theorem dX11_advanceToken_33 : decode cX11_advanceToken 33 = .ok (.putfield 75, 3) := by decide +kernel
theorem dX11_advanceToken_36 : decode cX11_advanceToken 36 = .ok (.goto (-36), 3) := by decide +kernel
theorem dX11_advanceToken_39 : decode cX11_advanceToken 39 = .ok (.aload_n 0, 1) := by decide +kernel
theorem dX11_advanceToken_40 : decode cX11_advanceToken 40 = .ok (.aload_n 0, 1) := by decide +kernel
theorem dX11_advanceToken_41 : decode cX11_advanceToken 41 = .ok (.getfield 75, 3) := by decide +kernel
theorem dX11_advanceToken_44 : decode cX11_advanceToken 44 = .ok (.putfield 82, 3) := by decide +kernel
theorem dX11_advanceToken_47 : decode cX11_advanceToken 47 = .ok (.aload_n 0, 1) := by decide +kernel
theorem dX11_advanceToken_48 : decode cX11_advanceToken 48 = .ok (.aload_n 0, 1) := by decide +kernel
theorem dX11_advanceToken_49 : decode cX11_advanceToken 49 = .ok (.getfield 75, 3) := by decide +kernel
theorem dX11_advanceToken_52 : decode cX11_advanceToken 52 = .ok (.invokevirtual 78, 3) := by decide +kernel
theorem dX11_advanceToken_55 : decode cX11_advanceToken 55 = .ok (.istore_n 1, 1) := by decide +kernel
theorem dX11_advanceToken_56 : decode cX11_advanceToken 56 = .ok (.aload_n 0, 1) := by decide +kernel
theorem dX11_advanceToken_57 : decode cX11_advanceToken 57 = .ok (.iconst 0, 1) := by decide +kernel
theorem dX11_advanceToken_58 : decode cX11_advanceToken 58 = .ok (.putfield 85, 3) := by decide +kernel
theorem dX11_advanceToken_61 : decode cX11_advanceToken 61 = .ok (.iload_n 1, 1) := by decide +kernel
theorem dX11_advanceToken_62 : decode cX11_advanceToken 62 = .ok (.iconst (-1), 1) := by decide +kernel
theorem dX11_advanceToken_63 : decode cX11_advanceToken 63 = .ok (.if_icmp .ne 11, 3) := by decide +kernel
theorem dX11_advanceToken_66 : decode cX11_advanceToken 66 = .ok (.aload_n 0, 1) := by decide +kernel
theorem dX11_advanceToken_67 : decode cX11_advanceToken 67 = .ok (.iconst 0, 1) := by decide +kernel
theorem dX11_advanceToken_68 : decode cX11_advanceToken 68 = .ok (.putfield 88, 3) := by decide +kernel
theorem dX11_advanceToken_71 : decode cX11_advanceToken 71 = .ok (.goto 171, 3) := by decide +kernel
theorem dX11_advanceToken_74 : decode cX11_advanceToken 74 = .ok (.iload_n 1, 1) := by decide +kernel
theorem dX11_advanceToken_75 : decode cX11_advanceToken 75 = .ok (.i2l, 1) := by decide +kernel
theorem dX11_advanceToken_76 : decode cX11_advanceToken 76 = .ok (.ldc2_w 91, 3) := by decide +kernel
theorem dX11_advanceToken_79 : decode cX11_advanceToken 79 = .ok (.ldc2_w 93, 3) := by decide +kernel
theorem dX11_advanceToken_82 : decode cX11_advanceToken 82 = .ok (.invokestatic 71, 3) := by decide +kernel
theorem dX11_advanceToken_85 : decode cX11_advanceToken 85 = .ok (.ifCond .eq 42, 3) := by decide +kernel
theorem dX11_advanceToken_88 : decode cX11_advanceToken 88 = .ok (.aload_n 0, 1) := by decide +kernel
theorem dX11_advanceToken_89 : decode cX11_advanceToken 89 = .ok (.iconst 1, 1) := by decide +kernel
theorem dX11_advanceToken_90 : decode cX11_advanceToken 90 = .ok (.putfield 88, 3) := by decide +kernel
theorem dX11_advanceToken_93 : decode cX11_advanceToken 93 = .ok (.aload_n 0, 1) := by decide +kernel
theorem dX11_advanceToken_94 : decode cX11_advanceToken 94 = .ok (.aload_n 0, 1) := by decide +kernel
theorem dX11_advanceToken_95 : decode cX11_advanceToken 95 = .ok (.getfield 75, 3) := by decide +kernel
theorem dX11_advanceToken_98 : decode cX11_advanceToken 98 = .ok (.invokevirtual 78, 3) := by decide +kernel
theorem dX11_advanceToken_101 : decode cX11_advanceToken 101 = .ok (.i2l, 1) := by decide +kernel
theorem dX11_advanceToken_102 : decode cX11_advanceToken 102 = .ok (.ldc2_w 91, 3) := by decide +kernel
theorem dX11_advanceToken_105 : decode cX11_advanceToken 105 = .ok (.ldc2_w 93, 3) := by decide +kernel
theorem dX11_advanceToken_108 : decode cX11_advanceToken 108 = .ok (.invokestatic 71, 3) := by decide +kernel
theorem dX11_advanceToken_111 : decode cX11_advanceToken 111 = .ok (.ifCond .eq 131, 3) := by decide +kernel
theorem dX11_advanceToken_114 : decode cX11_advanceToken 114 = .ok (.aload_n 0, 1) := by decide +kernel
theorem dX11_advanceToken_115 : decode cX11_advanceToken 115 = .ok (.dup, 1) := by decide +kernel
theorem dX11_advanceToken_116 : decode cX11_advanceToken 116 = .ok (.getfield 75, 3) := by decide +kernel
theorem dX11_advanceToken_119 : decode cX11_advanceToken 119 = .ok (.iconst 1, 1) := by decide +kernel
theorem dX11_advanceToken_120 : decode cX11_advanceToken 120 = .ok (.iadd, 1) := by decide +kernel
theorem dX11_advanceToken_121 : decode cX11_advanceToken 121 = .ok (.putfield 75, 3) := by decide +kernel
theorem dX11_advanceToken_124 : decode cX11_advanceToken 124 = .ok (.goto (-31), 3) := by decide +kernel
theorem dX11_advanceToken_127 : decode cX11_advanceToken 127 = .ok (.iload_n 1, 1) := by decide +kernel
theorem dX11_advanceToken_128 : decode cX11_advanceToken 128 = .ok (.i2l, 1) := by decide +kernel
theorem dX11_advanceToken_129 : decode cX11_advanceToken 129 = .ok (.ldc2_w 95, 3) := by decide +kernel
theorem dX11_advanceToken_132 : decode cX11_advanceToken 132 = .ok (.ldc2_w 97, 3) := by decide +kernel
theorem dX11_advanceToken_135 : decode cX11_advanceToken 135 = .ok (.invokestatic 71, 3) := by decide +kernel
theorem dX11_advanceToken_138 : decode cX11_advanceToken 138 = .ok (.ifCond .eq 79, 3) := by decide +kernel
theorem dX11_advanceToken_141 : decode cX11_advanceToken 141 = .ok (.aload_n 0, 1) := by decide +kernel
theorem dX11_advanceToken_142 : decode cX11_advanceToken 142 = .ok (.iconst 2, 1) := by decide +kernel
theorem dX11_advanceToken_143 : decode cX11_advanceToken 143 = .ok (.putfield 88, 3) := by decide +kernel
theorem dX11_advanceToken_146 : decode cX11_advanceToken 146 = .ok (.aload_n 0, 1) := by decide +kernel
theorem dX11_advanceToken_147 : decode cX11_advanceToken 147 = .ok (.aload_n 0, 1) := by decide +kernel
theorem dX11_advanceToken_148 : decode cX11_advanceToken 148 = .ok (.getfield 75, 3) := by decide +kernel
theorem dX11_advanceToken_151 : decode cX11_advanceToken 151 = .ok (.invokevirtual 78, 3) := by decide +kernel
theorem dX11_advanceToken_154 : decode cX11_advanceToken 154 = .ok (.i2l, 1) := by decide +kernel
theorem dX11_advanceToken_155 : decode cX11_advanceToken 155 = .ok (.ldc2_w 95, 3) := by decide +kernel
theorem dX11_advanceToken_158 : decode cX11_advanceToken 158 = .ok (.ldc2_w 97, 3) := by decide +kernel
theorem dX11_advanceToken_161 : decode cX11_advanceToken 161 = .ok (.invokestatic 71, 3) := by decide +kernel
theorem dX11_advanceToken_164 : decode cX11_advanceToken 164 = .ok (.ifCond .eq 78, 3) := by decide +kernel
theorem dX11_advanceToken_167 : decode cX11_advanceToken 167 = .ok (.aload_n 0, 1) := by decide +kernel
theorem dX11_advanceToken_168 : decode cX11_advanceToken 168 = .ok (.getfield 75, 3) := by decide +kernel
theorem dX11_advanceToken_171 : decode cX11_advanceToken 171 = .ok (.aload_n 0, 1) := by decide +kernel
theorem dX11_advanceToken_172 : decode cX11_advanceToken 172 = .ok (.getfield 82, 3) := by decide +kernel
theorem dX11_advanceToken_175 : decode cX11_advanceToken 175 = .ok (.isub, 1) := by decide +kernel
theorem dX11_advanceToken_176 : decode cX11_advanceToken 176 = .ok (.bipush 7, 2) := by decide +kernel
theorem dX11_advanceToken_178 : decode cX11_advanceToken 178 = .ok (.if_icmp .ge 26, 3) := by decide +kernel
theorem dX11_advanceToken_181 : decode cX11_advanceToken 181 = .ok (.aload_n 0, 1) := by decide +kernel
theorem dX11_advanceToken_182 : decode cX11_advanceToken 182 = .ok (.bipush 10, 2) := by decide +kernel
theorem dX11_advanceToken_184 : decode cX11_advanceToken 184 = .ok (.aload_n 0, 1) := by decide +kernel
theorem dX11_advanceToken_185 : decode cX11_advanceToken 185 = .ok (.getfield 85, 3) := by decide +kernel
theorem dX11_advanceToken_188 : decode cX11_advanceToken 188 = .ok (.imul, 1) := by decide +kernel
theorem dX11_advanceToken_189 : decode cX11_advanceToken 189 = .ok (.aload_n 0, 1) := by decide +kernel
theorem dX11_advanceToken_190 : decode cX11_advanceToken 190 = .ok (.aload_n 0, 1) := by decide +kernel
theorem dX11_advanceToken_191 : decode cX11_advanceToken 191 = .ok (.getfield 75, 3) := by decide +kernel
theorem dX11_advanceToken_194 : decode cX11_advanceToken 194 = .ok (.invokevirtual 78, 3) := by decide +kernel
theorem dX11_advanceToken_197 : decode cX11_advanceToken 197 = .ok (.iadd, 1) := by decide +kernel
theorem dX11_advanceToken_198 : decode cX11_advanceToken 198 = .ok (.bipush 48, 2) := by decide +kernel
theorem dX11_advanceToken_200 : decode cX11_advanceToken 200 = .ok (.isub, 1) := by decide +kernel
theorem dX11_advanceToken_201 : decode cX11_advanceToken 201 = .ok (.putfield 85, 3) := by decide +kernel
theorem dX11_advanceToken_204 : decode cX11_advanceToken 204 = .ok (.aload_n 0, 1) := by decide +kernel
theorem dX11_advanceToken_205 : decode cX11_advanceToken 205 = .ok (.dup, 1) := by decide +kernel
theorem dX11_advanceToken_206 : decode cX11_advanceToken 206 = .ok (.getfield 75, 3) := by decide +kernel
theorem dX11_advanceToken_209 : decode cX11_advanceToken 209 = .ok (.iconst 1, 1) := by decide +kernel
theorem dX11_advanceToken_210 : decode cX11_advanceToken 210 = .ok (.iadd, 1) := by decide +kernel
theorem dX11_advanceToken_211 : decode cX11_advanceToken 211 = .ok (.putfield 75, 3) := by decide +kernel
theorem dX11_advanceToken_214 : decode cX11_advanceToken 214 = .ok (.goto (-68), 3) := by decide +kernel
theorem dX11_advanceToken_217 : decode cX11_advanceToken 217 = .ok (.aload_n 0, 1) := by decide +kernel
theorem dX11_advanceToken_218 : decode cX11_advanceToken 218 = .ok (.iload_n 1, 1) := by decide +kernel
theorem dX11_advanceToken_219 : decode cX11_advanceToken 219 = .ok (.bipush 59, 2) := by decide +kernel
theorem dX11_advanceToken_221 : decode cX11_advanceToken 221 = .ok (.if_icmp .ne 7, 3) := by decide +kernel
theorem dX11_advanceToken_224 : decode cX11_advanceToken 224 = .ok (.iconst 3, 1) := by decide +kernel
theorem dX11_advanceToken_225 : decode cX11_advanceToken 225 = .ok (.goto 4, 3) := by decide +kernel
theorem dX11_advanceToken_228 : decode cX11_advanceToken 228 = .ok (.iconst 4, 1) := by decide +kernel
theorem dX11_advanceToken_229 : decode cX11_advanceToken 229 = .ok (.putfield 88, 3) := by decide +kernel
theorem dX11_advanceToken_232 : decode cX11_advanceToken 232 = .ok (.aload_n 0, 1) := by decide +kernel
theorem dX11_advanceToken_233 : decode cX11_advanceToken 233 = .ok (.dup, 1) := by decide +kernel
theorem dX11_advanceToken_234 : decode cX11_advanceToken 234 = .ok (.getfield 75, 3) := by decide +kernel
theorem dX11_advanceToken_237 : decode cX11_advanceToken 237 = .ok (.iconst 1, 1) := by decide +kernel
theorem dX11_advanceToken_238 : decode cX11_advanceToken 238 = .ok (.iadd, 1) := by decide +kernel
theorem dX11_advanceToken_239 : decode cX11_advanceToken 239 = .ok (.putfield 75, 3) := by decide +kernel
theorem dX11_advanceToken_242 : decode cX11_advanceToken 242 = .ok (.return_, 1) := by decide +kernel
theorem dX11_failsAt_0 : decode cX11_failsAt 0 = .ok (.aload_n 0, 1) := by decide +kernel
theorem dX11_failsAt_1 : decode cX11_failsAt 1 = .ok (.getfield 99, 3) := by decide +kernel
theorem dX11_failsAt_4 : decode cX11_failsAt 4 = .ok (.ifCond .ne 16, 3) := by decide +kernel
theorem dX11_failsAt_7 : decode cX11_failsAt 7 = .ok (.aload_n 0, 1) := by decide +kernel
theorem dX11_failsAt_8 : decode cX11_failsAt 8 = .ok (.iload_n 1, 1) := by decide +kernel
theorem dX11_failsAt_9 : decode cX11_failsAt 9 = .ok (.putfield 99, 3) := by decide +kernel
theorem dX11_failsAt_12 : decode cX11_failsAt 12 = .ok (.aload_n 0, 1) := by decide +kernel
theorem dX11_failsAt_13 : decode cX11_failsAt 13 = .ok (.aload_n 0, 1) := by decide +kernel
theorem dX11_failsAt_14 : decode cX11_failsAt 14 = .ok (.getfield 82, 3) := by decide +kernel
theorem dX11_failsAt_17 : decode cX11_failsAt 17 = .ok (.putfield 102, 3) := by decide +kernel
theorem dX11_failsAt_20 : decode cX11_failsAt 20 = .ok (.iconst 0, 1) := by decide +kernel
theorem dX11_failsAt_21 : decode cX11_failsAt 21 = .ok (.ireturn, 1) := by decide +kernel
theorem dX11_isWord_0 : decode cX11_isWord 0 = .ok (.aload_n 0, 1) := by decide +kernel
theorem dX11_isWord_1 : decode cX11_isWord 1 = .ok (.getfield 88, 3) := by decide +kernel
theorem dX11_isWord_4 : decode cX11_isWord 4 = .ok (.iconst 1, 1) := by decide +kernel
theorem dX11_isWord_5 : decode cX11_isWord 5 = .ok (.if_icmp .ne 19, 3) := by decide +kernel
theorem dX11_isWord_8 : decode cX11_isWord 8 = .ok (.aload_n 0, 1) := by decide +kernel
theorem dX11_isWord_9 : decode cX11_isWord 9 = .ok (.getfield 75, 3) := by decide +kernel
theorem dX11_isWord_12 : decode cX11_isWord 12 = .ok (.aload_n 0, 1) := by decide +kernel
theorem dX11_isWord_13 : decode cX11_isWord 13 = .ok (.getfield 82, 3) := by decide +kernel
theorem dX11_isWord_16 : decode cX11_isWord 16 = .ok (.isub, 1) := by decide +kernel
theorem dX11_isWord_17 : decode cX11_isWord 17 = .ok (.aload_n 1, 1) := by decide +kernel
theorem dX11_isWord_18 : decode cX11_isWord 18 = .ok (.invokevirtual 105, 3) := by decide +kernel
theorem dX11_isWord_21 : decode cX11_isWord 21 = .ok (.if_icmp .eq 5, 3) := by decide +kernel
theorem dX11_isWord_24 : decode cX11_isWord 24 = .ok (.iconst 0, 1) := by decide +kernel
theorem dX11_isWord_25 : decode cX11_isWord 25 = .ok (.ireturn, 1) := by decide +kernel
theorem dX11_isWord_26 : decode cX11_isWord 26 = .ok (.iconst 0, 1) := by decide +kernel
theorem dX11_isWord_27 : decode cX11_isWord 27 = .ok (.istore_n 2, 1) := by decide +kernel
theorem dX11_isWord_28 : decode cX11_isWord 28 = .ok (.iload_n 2, 1) := by decide +kernel
theorem dX11_isWord_29 : decode cX11_isWord 29 = .ok (.aload_n 1, 1) := by decide +kernel
theorem dX11_isWord_30 : decode cX11_isWord 30 = .ok (.invokevirtual 105, 3) := by decide +kernel
theorem dX11_isWord_33 : decode cX11_isWord 33 = .ok (.if_icmp .ge 30, 3) := by decide +kernel
theorem dX11_isWord_36 : decode cX11_isWord 36 = .ok (.aload_n 0, 1) := by decide +kernel
theorem dX11_isWord_37 : decode cX11_isWord 37 = .ok (.getfield 34, 3) := by decide +kernel
theorem dX11_isWord_40 : decode cX11_isWord 40 = .ok (.aload_n 0, 1) := by decide +kernel
theorem dX11_isWord_41 : decode cX11_isWord 41 = .ok (.getfield 82, 3) := by decide +kernel
theorem dX11_isWord_44 : decode cX11_isWord 44 = .ok (.iload_n 2, 1) := by decide +kernel
theorem dX11_isWord_45 : decode cX11_isWord 45 = .ok (.iadd, 1) := by decide +kernel
theorem dX11_isWord_46 : decode cX11_isWord 46 = .ok (.iaload, 1) := by decide +kernel
theorem dX11_isWord_47 : decode cX11_isWord 47 = .ok (.aload_n 1, 1) := by decide +kernel
theorem dX11_isWord_48 : decode cX11_isWord 48 = .ok (.iload_n 2, 1) := by decide +kernel
theorem dX11_isWord_49 : decode cX11_isWord 49 = .ok (.invokevirtual 111, 3) := by decide +kernel
theorem dX11_isWord_52 : decode cX11_isWord 52 = .ok (.if_icmp .eq 5, 3) := by decide +kernel
theorem dX11_isWord_55 : decode cX11_isWord 55 = .ok (.iconst 0, 1) := by decide +kernel
theorem dX11_isWord_56 : decode cX11_isWord 56 = .ok (.ireturn, 1) := by decide +kernel
theorem dX11_isWord_57 : decode cX11_isWord 57 = .ok (.iinc 2 1, 3) := by decide +kernel
theorem dX11_isWord_60 : decode cX11_isWord 60 = .ok (.goto (-32), 3) := by decide +kernel
theorem dX11_isWord_63 : decode cX11_isWord 63 = .ok (.iconst 1, 1) := by decide +kernel
theorem dX11_isWord_64 : decode cX11_isWord 64 = .ok (.ireturn, 1) := by decide +kernel
theorem dX11_takesWord_0 : decode cX11_takesWord 0 = .ok (.aload_n 0, 1) := by decide +kernel
theorem dX11_takesWord_1 : decode cX11_takesWord 1 = .ok (.aload_n 1, 1) := by decide +kernel
theorem dX11_takesWord_2 : decode cX11_takesWord 2 = .ok (.invokevirtual 115, 3) := by decide +kernel
theorem dX11_takesWord_5 : decode cX11_takesWord 5 = .ok (.ifCond .ne 5, 3) := by decide +kernel
theorem dX11_takesWord_8 : decode cX11_takesWord 8 = .ok (.iconst 0, 1) := by decide +kernel
theorem dX11_takesWord_9 : decode cX11_takesWord 9 = .ok (.ireturn, 1) := by decide +kernel
theorem dX11_takesWord_10 : decode cX11_takesWord 10 = .ok (.aload_n 0, 1) := by decide +kernel
theorem dX11_takesWord_11 : decode cX11_takesWord 11 = .ok (.invokevirtual 119, 3) := by decide +kernel
theorem dX11_takesWord_14 : decode cX11_takesWord 14 = .ok (.iconst 1, 1) := by decide +kernel
theorem dX11_takesWord_15 : decode cX11_takesWord 15 = .ok (.ireturn, 1) := by decide +kernel
theorem dX11_seesNumber_0 : decode cX11_seesNumber 0 = .ok (.aload_n 0, 1) := by decide +kernel
theorem dX11_seesNumber_1 : decode cX11_seesNumber 1 = .ok (.getfield 88, 3) := by decide +kernel
theorem dX11_seesNumber_4 : decode cX11_seesNumber 4 = .ok (.iconst 2, 1) := by decide +kernel
theorem dX11_seesNumber_5 : decode cX11_seesNumber 5 = .ok (.if_icmp .ne 17, 3) := by decide +kernel
theorem dX11_seesNumber_8 : decode cX11_seesNumber 8 = .ok (.aload_n 0, 1) := by decide +kernel
theorem dX11_seesNumber_9 : decode cX11_seesNumber 9 = .ok (.getfield 75, 3) := by decide +kernel
theorem dX11_seesNumber_12 : decode cX11_seesNumber 12 = .ok (.aload_n 0, 1) := by decide +kernel
theorem dX11_seesNumber_13 : decode cX11_seesNumber 13 = .ok (.getfield 82, 3) := by decide +kernel
theorem dX11_seesNumber_16 : decode cX11_seesNumber 16 = .ok (.isub, 1) := by decide +kernel
theorem dX11_seesNumber_17 : decode cX11_seesNumber 17 = .ok (.bipush 7, 2) := by decide +kernel
theorem dX11_seesNumber_19 : decode cX11_seesNumber 19 = .ok (.if_icmp .le 9, 3) := by decide +kernel
theorem dX11_seesNumber_22 : decode cX11_seesNumber 22 = .ok (.aload_n 0, 1) := by decide +kernel
theorem dX11_seesNumber_23 : decode cX11_seesNumber 23 = .ok (.iconst 1, 1) := by decide +kernel
theorem dX11_seesNumber_24 : decode cX11_seesNumber 24 = .ok (.invokevirtual 122, 3) := by decide +kernel
theorem dX11_seesNumber_27 : decode cX11_seesNumber 27 = .ok (.ireturn, 1) := by decide +kernel
theorem dX11_seesNumber_28 : decode cX11_seesNumber 28 = .ok (.aload_n 0, 1) := by decide +kernel
theorem dX11_seesNumber_29 : decode cX11_seesNumber 29 = .ok (.getfield 85, 3) := by decide +kernel
theorem dX11_seesNumber_32 : decode cX11_seesNumber 32 = .ok (.i2l, 1) := by decide +kernel
theorem dX11_seesNumber_33 : decode cX11_seesNumber 33 = .ok (.iload_n 1, 1) := by decide +kernel
theorem dX11_seesNumber_34 : decode cX11_seesNumber 34 = .ok (.i2l, 1) := by decide +kernel
theorem dX11_seesNumber_35 : decode cX11_seesNumber 35 = .ok (.iload_n 2, 1) := by decide +kernel
theorem dX11_seesNumber_36 : decode cX11_seesNumber 36 = .ok (.i2l, 1) := by decide +kernel
theorem dX11_seesNumber_37 : decode cX11_seesNumber 37 = .ok (.invokestatic 71, 3) := by decide +kernel
theorem dX11_seesNumber_40 : decode cX11_seesNumber 40 = .ok (.ifCond .ne 11, 3) := by decide +kernel
theorem dX11_seesNumber_43 : decode cX11_seesNumber 43 = .ok (.aload_n 0, 1) := by decide +kernel
theorem dX11_seesNumber_44 : decode cX11_seesNumber 44 = .ok (.iconst 2, 1) := by decide +kernel
theorem dX11_seesNumber_45 : decode cX11_seesNumber 45 = .ok (.invokevirtual 122, 3) := by decide +kernel
theorem dX11_seesNumber_48 : decode cX11_seesNumber 48 = .ok (.ifCond .eq 7, 3) := by decide +kernel
theorem dX11_seesNumber_51 : decode cX11_seesNumber 51 = .ok (.iconst 1, 1) := by decide +kernel
theorem dX11_seesNumber_52 : decode cX11_seesNumber 52 = .ok (.goto 4, 3) := by decide +kernel
theorem dX11_seesNumber_55 : decode cX11_seesNumber 55 = .ok (.iconst 0, 1) := by decide +kernel
theorem dX11_seesNumber_56 : decode cX11_seesNumber 56 = .ok (.ireturn, 1) := by decide +kernel
theorem dX11_isKeyword_0 : decode cX11_isKeyword 0 = .ok (.aload_n 0, 1) := by decide +kernel
theorem dX11_isKeyword_1 : decode cX11_isKeyword 1 = .ok (.ldc 126, 2) := by decide +kernel
theorem dX11_isKeyword_3 : decode cX11_isKeyword 3 = .ok (.invokevirtual 115, 3) := by decide +kernel
theorem dX11_isKeyword_6 : decode cX11_isKeyword 6 = .ok (.ifCond .ne 48, 3) := by decide +kernel
theorem dX11_isKeyword_9 : decode cX11_isKeyword 9 = .ok (.aload_n 0, 1) := by decide +kernel
theorem dX11_isKeyword_10 : decode cX11_isKeyword 10 = .ok (.ldc 128, 2) := by decide +kernel
theorem dX11_isKeyword_12 : decode cX11_isKeyword 12 = .ok (.invokevirtual 115, 3) := by decide +kernel
theorem dX11_isKeyword_15 : decode cX11_isKeyword 15 = .ok (.ifCond .ne 39, 3) := by decide +kernel
theorem dX11_isKeyword_18 : decode cX11_isKeyword 18 = .ok (.aload_n 0, 1) := by decide +kernel
theorem dX11_isKeyword_19 : decode cX11_isKeyword 19 = .ok (.ldc 130, 2) := by decide +kernel
theorem dX11_isKeyword_21 : decode cX11_isKeyword 21 = .ok (.invokevirtual 115, 3) := by decide +kernel
theorem dX11_isKeyword_24 : decode cX11_isKeyword 24 = .ok (.ifCond .ne 30, 3) := by decide +kernel
theorem dX11_isKeyword_27 : decode cX11_isKeyword 27 = .ok (.aload_n 0, 1) := by decide +kernel
theorem dX11_isKeyword_28 : decode cX11_isKeyword 28 = .ok (.ldc 132, 2) := by decide +kernel
theorem dX11_isKeyword_30 : decode cX11_isKeyword 30 = .ok (.invokevirtual 115, 3) := by decide +kernel
theorem dX11_isKeyword_33 : decode cX11_isKeyword 33 = .ok (.ifCond .ne 21, 3) := by decide +kernel
theorem dX11_isKeyword_36 : decode cX11_isKeyword 36 = .ok (.aload_n 0, 1) := by decide +kernel
theorem dX11_isKeyword_37 : decode cX11_isKeyword 37 = .ok (.ldc 134, 2) := by decide +kernel
theorem dX11_isKeyword_39 : decode cX11_isKeyword 39 = .ok (.invokevirtual 115, 3) := by decide +kernel
theorem dX11_isKeyword_42 : decode cX11_isKeyword 42 = .ok (.ifCond .ne 12, 3) := by decide +kernel
theorem dX11_isKeyword_45 : decode cX11_isKeyword 45 = .ok (.aload_n 0, 1) := by decide +kernel
theorem dX11_isKeyword_46 : decode cX11_isKeyword 46 = .ok (.ldc 136, 2) := by decide +kernel
theorem dX11_isKeyword_48 : decode cX11_isKeyword 48 = .ok (.invokevirtual 115, 3) := by decide +kernel
theorem dX11_isKeyword_51 : decode cX11_isKeyword 51 = .ok (.ifCond .eq 7, 3) := by decide +kernel
theorem dX11_isKeyword_54 : decode cX11_isKeyword 54 = .ok (.iconst 1, 1) := by decide +kernel
theorem dX11_isKeyword_55 : decode cX11_isKeyword 55 = .ok (.goto 4, 3) := by decide +kernel
theorem dX11_isKeyword_58 : decode cX11_isKeyword 58 = .ok (.iconst 0, 1) := by decide +kernel
theorem dX11_isKeyword_59 : decode cX11_isKeyword 59 = .ok (.istore_n 1, 1) := by decide +kernel
theorem dX11_isKeyword_60 : decode cX11_isKeyword 60 = .ok (.iload_n 1, 1) := by decide +kernel
theorem dX11_isKeyword_61 : decode cX11_isKeyword 61 = .ok (.ifCond .ne 48, 3) := by decide +kernel
theorem dX11_isKeyword_64 : decode cX11_isKeyword 64 = .ok (.aload_n 0, 1) := by decide +kernel
theorem dX11_isKeyword_65 : decode cX11_isKeyword 65 = .ok (.ldc 138, 2) := by decide +kernel
theorem dX11_isKeyword_67 : decode cX11_isKeyword 67 = .ok (.invokevirtual 115, 3) := by decide +kernel
theorem dX11_isKeyword_70 : decode cX11_isKeyword 70 = .ok (.ifCond .ne 39, 3) := by decide +kernel
theorem dX11_isKeyword_73 : decode cX11_isKeyword 73 = .ok (.aload_n 0, 1) := by decide +kernel
theorem dX11_isKeyword_74 : decode cX11_isKeyword 74 = .ok (.ldc 140, 2) := by decide +kernel
theorem dX11_isKeyword_76 : decode cX11_isKeyword 76 = .ok (.invokevirtual 115, 3) := by decide +kernel
theorem dX11_isKeyword_79 : decode cX11_isKeyword 79 = .ok (.ifCond .ne 30, 3) := by decide +kernel
theorem dX11_isKeyword_82 : decode cX11_isKeyword 82 = .ok (.aload_n 0, 1) := by decide +kernel
theorem dX11_isKeyword_83 : decode cX11_isKeyword 83 = .ok (.ldc 142, 2) := by decide +kernel
theorem dX11_isKeyword_85 : decode cX11_isKeyword 85 = .ok (.invokevirtual 115, 3) := by decide +kernel
theorem dX11_isKeyword_88 : decode cX11_isKeyword 88 = .ok (.ifCond .ne 21, 3) := by decide +kernel
theorem dX11_isKeyword_91 : decode cX11_isKeyword 91 = .ok (.aload_n 0, 1) := by decide +kernel
theorem dX11_isKeyword_92 : decode cX11_isKeyword 92 = .ok (.ldc 144, 2) := by decide +kernel
theorem dX11_isKeyword_94 : decode cX11_isKeyword 94 = .ok (.invokevirtual 115, 3) := by decide +kernel
theorem dX11_isKeyword_97 : decode cX11_isKeyword 97 = .ok (.ifCond .ne 12, 3) := by decide +kernel
theorem dX11_isKeyword_100 : decode cX11_isKeyword 100 = .ok (.aload_n 0, 1) := by decide +kernel
theorem dX11_isKeyword_101 : decode cX11_isKeyword 101 = .ok (.ldc 146, 2) := by decide +kernel
theorem dX11_isKeyword_103 : decode cX11_isKeyword 103 = .ok (.invokevirtual 115, 3) := by decide +kernel
theorem dX11_isKeyword_106 : decode cX11_isKeyword 106 = .ok (.ifCond .eq 7, 3) := by decide +kernel
theorem dX11_isKeyword_109 : decode cX11_isKeyword 109 = .ok (.iconst 1, 1) := by decide +kernel
theorem dX11_isKeyword_110 : decode cX11_isKeyword 110 = .ok (.goto 4, 3) := by decide +kernel
theorem dX11_isKeyword_113 : decode cX11_isKeyword 113 = .ok (.iconst 0, 1) := by decide +kernel
theorem dX11_isKeyword_114 : decode cX11_isKeyword 114 = .ok (.ireturn, 1) := by decide +kernel
theorem dX11_seesName_0 : decode cX11_seesName 0 = .ok (.aload_n 0, 1) := by decide +kernel
theorem dX11_seesName_1 : decode cX11_seesName 1 = .ok (.getfield 88, 3) := by decide +kernel
theorem dX11_seesName_4 : decode cX11_seesName 4 = .ok (.iconst 1, 1) := by decide +kernel
theorem dX11_seesName_5 : decode cX11_seesName 5 = .ok (.if_icmp .ne 24, 3) := by decide +kernel
theorem dX11_seesName_8 : decode cX11_seesName 8 = .ok (.aload_n 0, 1) := by decide +kernel
theorem dX11_seesName_9 : decode cX11_seesName 9 = .ok (.getfield 75, 3) := by decide +kernel
theorem dX11_seesName_12 : decode cX11_seesName 12 = .ok (.aload_n 0, 1) := by decide +kernel
theorem dX11_seesName_13 : decode cX11_seesName 13 = .ok (.getfield 82, 3) := by decide +kernel
theorem dX11_seesName_16 : decode cX11_seesName 16 = .ok (.isub, 1) := by decide +kernel
theorem dX11_seesName_17 : decode cX11_seesName 17 = .ok (.bipush 8, 2) := by decide +kernel
theorem dX11_seesName_19 : decode cX11_seesName 19 = .ok (.if_icmp .gt 10, 3) := by decide +kernel
theorem dX11_seesName_22 : decode cX11_seesName 22 = .ok (.aload_n 0, 1) := by decide +kernel
theorem dX11_seesName_23 : decode cX11_seesName 23 = .ok (.invokevirtual 148, 3) := by decide +kernel
theorem dX11_seesName_26 : decode cX11_seesName 26 = .ok (.ifCond .eq 11, 3) := by decide +kernel
theorem dX11_seesName_29 : decode cX11_seesName 29 = .ok (.aload_n 0, 1) := by decide +kernel
theorem dX11_seesName_30 : decode cX11_seesName 30 = .ok (.iconst 1, 1) := by decide +kernel
theorem dX11_seesName_31 : decode cX11_seesName 31 = .ok (.invokevirtual 122, 3) := by decide +kernel
theorem dX11_seesName_34 : decode cX11_seesName 34 = .ok (.ifCond .eq 7, 3) := by decide +kernel
theorem dX11_seesName_37 : decode cX11_seesName 37 = .ok (.iconst 1, 1) := by decide +kernel
theorem dX11_seesName_38 : decode cX11_seesName 38 = .ok (.goto 4, 3) := by decide +kernel
theorem dX11_seesName_41 : decode cX11_seesName 41 = .ok (.iconst 0, 1) := by decide +kernel
theorem dX11_seesName_42 : decode cX11_seesName 42 = .ok (.ireturn, 1) := by decide +kernel
theorem dX11_find_0 : decode cX11_find 0 = .ok (.iconst 0, 1) := by decide +kernel
theorem dX11_find_1 : decode cX11_find 1 = .ok (.istore_n 1, 1) := by decide +kernel
theorem dX11_find_2 : decode cX11_find 2 = .ok (.iload_n 1, 1) := by decide +kernel
theorem dX11_find_3 : decode cX11_find 3 = .ok (.aload_n 0, 1) := by decide +kernel
theorem dX11_find_4 : decode cX11_find 4 = .ok (.getfield 7, 3) := by decide +kernel
theorem dX11_find_7 : decode cX11_find 7 = .ok (.iconst 0, 1) := by decide +kernel
theorem dX11_find_8 : decode cX11_find 8 = .ok (.iaload, 1) := by decide +kernel
theorem dX11_find_9 : decode cX11_find 9 = .ok (.if_icmp .ge 83, 3) := by decide +kernel
theorem dX11_find_12 : decode cX11_find 12 = .ok (.iconst 1, 1) := by decide +kernel
theorem dX11_find_13 : decode cX11_find 13 = .ok (.istore_n 2, 1) := by decide +kernel
theorem dX11_find_14 : decode cX11_find 14 = .ok (.iconst 0, 1) := by decide +kernel
theorem dX11_find_15 : decode cX11_find 15 = .ok (.istore_n 3, 1) := by decide +kernel
theorem dX11_find_16 : decode cX11_find 16 = .ok (.iload_n 3, 1) := by decide +kernel
theorem dX11_find_17 : decode cX11_find 17 = .ok (.bipush 8, 2) := by decide +kernel
theorem dX11_find_19 : decode cX11_find 19 = .ok (.if_icmp .ge 61, 3) := by decide +kernel
theorem dX11_find_22 : decode cX11_find 22 = .ok (.iload_n 2, 1) := by decide +kernel
theorem dX11_find_23 : decode cX11_find 23 = .ok (.ifCond .eq 49, 3) := by decide +kernel
theorem dX11_find_26 : decode cX11_find 26 = .ok (.aload_n 0, 1) := by decide +kernel
theorem dX11_find_27 : decode cX11_find 27 = .ok (.getfield 16, 3) := by decide +kernel
theorem dX11_find_30 : decode cX11_find 30 = .ok (.bipush 8, 2) := by decide +kernel
theorem dX11_find_32 : decode cX11_find 32 = .ok (.iload_n 1, 1) := by decide +kernel
theorem dX11_find_33 : decode cX11_find 33 = .ok (.imul, 1) := by decide +kernel
theorem dX11_find_34 : decode cX11_find 34 = .ok (.iload_n 3, 1) := by decide +kernel
theorem dX11_find_35 : decode cX11_find 35 = .ok (.iadd, 1) := by decide +kernel
theorem dX11_find_36 : decode cX11_find 36 = .ok (.iaload, 1) := by decide +kernel
theorem dX11_find_37 : decode cX11_find 37 = .ok (.iload_n 3, 1) := by decide +kernel
theorem dX11_find_38 : decode cX11_find 38 = .ok (.aload_n 0, 1) := by decide +kernel
theorem dX11_find_39 : decode cX11_find 39 = .ok (.getfield 75, 3) := by decide +kernel
theorem dX11_find_42 : decode cX11_find 42 = .ok (.aload_n 0, 1) := by decide +kernel
theorem dX11_find_43 : decode cX11_find 43 = .ok (.getfield 82, 3) := by decide +kernel
theorem dX11_find_46 : decode cX11_find 46 = .ok (.isub, 1) := by decide +kernel
theorem dX11_find_47 : decode cX11_find 47 = .ok (.if_icmp .ge 17, 3) := by decide +kernel
theorem dX11_find_50 : decode cX11_find 50 = .ok (.aload_n 0, 1) := by decide +kernel
theorem dX11_find_51 : decode cX11_find 51 = .ok (.getfield 34, 3) := by decide +kernel
theorem dX11_find_54 : decode cX11_find 54 = .ok (.aload_n 0, 1) := by decide +kernel
theorem dX11_find_55 : decode cX11_find 55 = .ok (.getfield 82, 3) := by decide +kernel
theorem dX11_find_58 : decode cX11_find 58 = .ok (.iload_n 3, 1) := by decide +kernel
theorem dX11_find_59 : decode cX11_find 59 = .ok (.iadd, 1) := by decide +kernel
theorem dX11_find_60 : decode cX11_find 60 = .ok (.iaload, 1) := by decide +kernel
theorem dX11_find_61 : decode cX11_find 61 = .ok (.goto 4, 3) := by decide +kernel
theorem dX11_find_64 : decode cX11_find 64 = .ok (.iconst 0, 1) := by decide +kernel
theorem dX11_find_65 : decode cX11_find 65 = .ok (.if_icmp .ne 7, 3) := by decide +kernel
theorem dX11_find_68 : decode cX11_find 68 = .ok (.iconst 1, 1) := by decide +kernel
theorem dX11_find_69 : decode cX11_find 69 = .ok (.goto 4, 3) := by decide +kernel
theorem dX11_find_72 : decode cX11_find 72 = .ok (.iconst 0, 1) := by decide +kernel
theorem dX11_find_73 : decode cX11_find 73 = .ok (.istore_n 2, 1) := by decide +kernel
theorem dX11_find_74 : decode cX11_find 74 = .ok (.iinc 3 1, 3) := by decide +kernel
theorem dX11_find_77 : decode cX11_find 77 = .ok (.goto (-61), 3) := by decide +kernel
theorem dX11_find_80 : decode cX11_find 80 = .ok (.iload_n 2, 1) := by decide +kernel
theorem dX11_find_81 : decode cX11_find 81 = .ok (.ifCond .eq 5, 3) := by decide +kernel
theorem dX11_find_84 : decode cX11_find 84 = .ok (.iload_n 1, 1) := by decide +kernel
theorem dX11_find_85 : decode cX11_find 85 = .ok (.ireturn, 1) := by decide +kernel
theorem dX11_find_86 : decode cX11_find 86 = .ok (.iinc 1 1, 3) := by decide +kernel
theorem dX11_find_89 : decode cX11_find 89 = .ok (.goto (-87), 3) := by decide +kernel
theorem dX11_find_92 : decode cX11_find 92 = .ok (.iconst (-1), 1) := by decide +kernel
theorem dX11_find_93 : decode cX11_find 93 = .ok (.ireturn, 1) := by decide +kernel
theorem dX11_seesKnown_0 : decode cX11_seesKnown 0 = .ok (.aload_n 0, 1) := by decide +kernel
theorem dX11_seesKnown_1 : decode cX11_seesKnown 1 = .ok (.invokevirtual 152, 3) := by decide +kernel
theorem dX11_seesKnown_4 : decode cX11_seesKnown 4 = .ok (.ifCond .ne 5, 3) := by decide +kernel
theorem dX11_seesKnown_7 : decode cX11_seesKnown 7 = .ok (.iconst (-1), 1) := by decide +kernel
theorem dX11_seesKnown_8 : decode cX11_seesKnown 8 = .ok (.ireturn, 1) := by decide +kernel
theorem dX11_seesKnown_9 : decode cX11_seesKnown 9 = .ok (.aload_n 0, 1) := by decide +kernel
theorem dX11_seesKnown_10 : decode cX11_seesKnown 10 = .ok (.invokevirtual 155, 3) := by decide +kernel
theorem dX11_seesKnown_13 : decode cX11_seesKnown 13 = .ok (.istore_n 1, 1) := by decide +kernel
theorem dX11_seesKnown_14 : decode cX11_seesKnown 14 = .ok (.iload_n 1, 1) := by decide +kernel
theorem dX11_seesKnown_15 : decode cX11_seesKnown 15 = .ok (.iconst (-1), 1) := by decide +kernel
theorem dX11_seesKnown_16 : decode cX11_seesKnown 16 = .ok (.if_icmp .ne 11, 3) := by decide +kernel
theorem dX11_seesKnown_19 : decode cX11_seesKnown 19 = .ok (.aload_n 0, 1) := by decide +kernel
theorem dX11_seesKnown_20 : decode cX11_seesKnown 20 = .ok (.iconst 3, 1) := by decide +kernel
theorem dX11_seesKnown_21 : decode cX11_seesKnown 21 = .ok (.invokevirtual 122, 3) := by decide +kernel
theorem dX11_seesKnown_24 : decode cX11_seesKnown 24 = .ok (.ifCond .eq 7, 3) := by decide +kernel
theorem dX11_seesKnown_27 : decode cX11_seesKnown 27 = .ok (.iconst 1, 1) := by decide +kernel
theorem dX11_seesKnown_28 : decode cX11_seesKnown 28 = .ok (.goto 4, 3) := by decide +kernel
theorem dX11_seesKnown_31 : decode cX11_seesKnown 31 = .ok (.iconst 0, 1) := by decide +kernel
theorem dX11_seesKnown_32 : decode cX11_seesKnown 32 = .ok (.istore_n 2, 1) := by decide +kernel
theorem dX11_seesKnown_33 : decode cX11_seesKnown 33 = .ok (.iload_n 2, 1) := by decide +kernel
theorem dX11_seesKnown_34 : decode cX11_seesKnown 34 = .ok (.ifCond .eq 7, 3) := by decide +kernel
theorem dX11_seesKnown_37 : decode cX11_seesKnown 37 = .ok (.iload_n 1, 1) := by decide +kernel
theorem dX11_seesKnown_38 : decode cX11_seesKnown 38 = .ok (.goto 4, 3) := by decide +kernel
theorem dX11_seesKnown_41 : decode cX11_seesKnown 41 = .ok (.iconst (-1), 1) := by decide +kernel
theorem dX11_seesKnown_42 : decode cX11_seesKnown 42 = .ok (.ireturn, 1) := by decide +kernel
theorem dX11_starts_0 : decode cX11_starts 0 = .ok (.iload_n 1, 1) := by decide +kernel
theorem dX11_starts_1 : decode cX11_starts 1 = .ok (.ifCond .ne 9, 3) := by decide +kernel
theorem dX11_starts_4 : decode cX11_starts 4 = .ok (.aload_n 0, 1) := by decide +kernel
theorem dX11_starts_5 : decode cX11_starts 5 = .ok (.iconst 4, 1) := by decide +kernel
theorem dX11_starts_6 : decode cX11_starts 6 = .ok (.invokevirtual 122, 3) := by decide +kernel
theorem dX11_starts_9 : decode cX11_starts 9 = .ok (.ireturn, 1) := by decide +kernel
theorem dX11_starts_10 : decode cX11_starts 10 = .ok (.aload_n 0, 1) := by decide +kernel
theorem dX11_starts_11 : decode cX11_starts 11 = .ok (.invokevirtual 119, 3) := by decide +kernel
theorem dX11_starts_14 : decode cX11_starts 14 = .ok (.iconst 1, 1) := by decide +kernel
theorem dX11_starts_15 : decode cX11_starts 15 = .ok (.ireturn, 1) := by decide +kernel
theorem dX11_startsOnce_0 : decode cX11_startsOnce 0 = .ok (.aload_n 0, 1) := by decide +kernel
theorem dX11_startsOnce_1 : decode cX11_startsOnce 1 = .ok (.getfield 158, 3) := by decide +kernel
theorem dX11_startsOnce_4 : decode cX11_startsOnce 4 = .ok (.iload_n 1, 1) := by decide +kernel
theorem dX11_startsOnce_5 : decode cX11_startsOnce 5 = .ok (.iand, 1) := by decide +kernel
theorem dX11_startsOnce_6 : decode cX11_startsOnce 6 = .ok (.ifCond .ne 7, 3) := by decide +kernel
theorem dX11_startsOnce_9 : decode cX11_startsOnce 9 = .ok (.iconst 1, 1) := by decide +kernel
theorem dX11_startsOnce_10 : decode cX11_startsOnce 10 = .ok (.goto 4, 3) := by decide +kernel
theorem dX11_startsOnce_13 : decode cX11_startsOnce 13 = .ok (.iconst 0, 1) := by decide +kernel
theorem dX11_startsOnce_14 : decode cX11_startsOnce 14 = .ok (.istore_n 2, 1) := by decide +kernel
theorem dX11_startsOnce_15 : decode cX11_startsOnce 15 = .ok (.aload_n 0, 1) := by decide +kernel
theorem dX11_startsOnce_16 : decode cX11_startsOnce 16 = .ok (.dup, 1) := by decide +kernel
theorem dX11_startsOnce_17 : decode cX11_startsOnce 17 = .ok (.getfield 158, 3) := by decide +kernel
theorem dX11_startsOnce_20 : decode cX11_startsOnce 20 = .ok (.iload_n 1, 1) := by decide +kernel
theorem dX11_startsOnce_21 : decode cX11_startsOnce 21 = .ok (.ior, 1) := by decide +kernel
theorem dX11_startsOnce_22 : decode cX11_startsOnce 22 = .ok (.putfield 158, 3) := by decide +kernel
theorem dX11_startsOnce_25 : decode cX11_startsOnce 25 = .ok (.aload_n 0, 1) := by decide +kernel
theorem dX11_startsOnce_26 : decode cX11_startsOnce 26 = .ok (.iload_n 2, 1) := by decide +kernel
theorem dX11_startsOnce_27 : decode cX11_startsOnce 27 = .ok (.invokevirtual 161, 3) := by decide +kernel
theorem dX11_startsOnce_30 : decode cX11_startsOnce 30 = .ok (.ireturn, 1) := by decide +kernel
theorem dX11_hasStock_0 : decode cX11_hasStock 0 = .ok (.iconst 0, 1) := by decide +kernel
theorem dX11_hasStock_1 : decode cX11_hasStock 1 = .ok (.istore_n 2, 1) := by decide +kernel
theorem dX11_hasStock_2 : decode cX11_hasStock 2 = .ok (.iload_n 2, 1) := by decide +kernel
theorem dX11_hasStock_3 : decode cX11_hasStock 3 = .ok (.aload_n 0, 1) := by decide +kernel
theorem dX11_hasStock_4 : decode cX11_hasStock 4 = .ok (.getfield 22, 3) := by decide +kernel
theorem dX11_hasStock_7 : decode cX11_hasStock 7 = .ok (.iconst 0, 1) := by decide +kernel
theorem dX11_hasStock_8 : decode cX11_hasStock 8 = .ok (.iaload, 1) := by decide +kernel
theorem dX11_hasStock_9 : decode cX11_hasStock 9 = .ok (.if_icmp .ge 23, 3) := by decide +kernel
theorem dX11_hasStock_12 : decode cX11_hasStock 12 = .ok (.aload_n 0, 1) := by decide +kernel
theorem dX11_hasStock_13 : decode cX11_hasStock 13 = .ok (.getfield 22, 3) := by decide +kernel
theorem dX11_hasStock_16 : decode cX11_hasStock 16 = .ok (.iconst 1, 1) := by decide +kernel
theorem dX11_hasStock_17 : decode cX11_hasStock 17 = .ok (.iload_n 2, 1) := by decide +kernel
theorem dX11_hasStock_18 : decode cX11_hasStock 18 = .ok (.iadd, 1) := by decide +kernel
theorem dX11_hasStock_19 : decode cX11_hasStock 19 = .ok (.iaload, 1) := by decide +kernel
theorem dX11_hasStock_20 : decode cX11_hasStock 20 = .ok (.iload_n 1, 1) := by decide +kernel
theorem dX11_hasStock_21 : decode cX11_hasStock 21 = .ok (.if_icmp .ne 5, 3) := by decide +kernel
theorem dX11_hasStock_24 : decode cX11_hasStock 24 = .ok (.iconst 1, 1) := by decide +kernel
theorem dX11_hasStock_25 : decode cX11_hasStock 25 = .ok (.ireturn, 1) := by decide +kernel
theorem dX11_hasStock_26 : decode cX11_hasStock 26 = .ok (.iinc 2 1, 3) := by decide +kernel
theorem dX11_hasStock_29 : decode cX11_hasStock 29 = .ok (.goto (-27), 3) := by decide +kernel
theorem dX11_hasStock_32 : decode cX11_hasStock 32 = .ok (.iconst 0, 1) := by decide +kernel
theorem dX11_hasStock_33 : decode cX11_hasStock 33 = .ok (.ireturn, 1) := by decide +kernel
theorem dX11_addsStock_0 : decode cX11_addsStock 0 = .ok (.aload_n 0, 1) := by decide +kernel
theorem dX11_addsStock_1 : decode cX11_addsStock 1 = .ok (.getfield 22, 3) := by decide +kernel
theorem dX11_addsStock_4 : decode cX11_addsStock 4 = .ok (.iconst 0, 1) := by decide +kernel
theorem dX11_addsStock_5 : decode cX11_addsStock 5 = .ok (.iaload, 1) := by decide +kernel
theorem dX11_addsStock_6 : decode cX11_addsStock 6 = .ok (.istore_n 2, 1) := by decide +kernel
theorem dX11_addsStock_7 : decode cX11_addsStock 7 = .ok (.iload_n 2, 1) := by decide +kernel
theorem dX11_addsStock_8 : decode cX11_addsStock 8 = .ok (.ifCond .le 41, 3) := by decide +kernel
theorem dX11_addsStock_11 : decode cX11_addsStock 11 = .ok (.aload_n 0, 1) := by decide +kernel
theorem dX11_addsStock_12 : decode cX11_addsStock 12 = .ok (.getfield 22, 3) := by decide +kernel
theorem dX11_addsStock_15 : decode cX11_addsStock 15 = .ok (.iconst 1, 1) := by decide +kernel
theorem dX11_addsStock_16 : decode cX11_addsStock 16 = .ok (.iload_n 2, 1) := by decide +kernel
theorem dX11_addsStock_17 : decode cX11_addsStock 17 = .ok (.iadd, 1) := by decide +kernel
theorem dX11_addsStock_18 : decode cX11_addsStock 18 = .ok (.iconst 1, 1) := by decide +kernel
theorem dX11_addsStock_19 : decode cX11_addsStock 19 = .ok (.isub, 1) := by decide +kernel
theorem dX11_addsStock_20 : decode cX11_addsStock 20 = .ok (.iaload, 1) := by decide +kernel
theorem dX11_addsStock_21 : decode cX11_addsStock 21 = .ok (.iload_n 1, 1) := by decide +kernel
theorem dX11_addsStock_22 : decode cX11_addsStock 22 = .ok (.if_icmp .le 27, 3) := by decide +kernel
theorem dX11_addsStock_25 : decode cX11_addsStock 25 = .ok (.aload_n 0, 1) := by decide +kernel
theorem dX11_addsStock_26 : decode cX11_addsStock 26 = .ok (.getfield 22, 3) := by decide +kernel
theorem dX11_addsStock_29 : decode cX11_addsStock 29 = .ok (.iconst 1, 1) := by decide +kernel
theorem dX11_addsStock_30 : decode cX11_addsStock 30 = .ok (.iload_n 2, 1) := by decide +kernel
theorem dX11_addsStock_31 : decode cX11_addsStock 31 = .ok (.iadd, 1) := by decide +kernel
theorem dX11_addsStock_32 : decode cX11_addsStock 32 = .ok (.aload_n 0, 1) := by decide +kernel
theorem dX11_addsStock_33 : decode cX11_addsStock 33 = .ok (.getfield 22, 3) := by decide +kernel
theorem dX11_addsStock_36 : decode cX11_addsStock 36 = .ok (.iconst 1, 1) := by decide +kernel
theorem dX11_addsStock_37 : decode cX11_addsStock 37 = .ok (.iload_n 2, 1) := by decide +kernel
theorem dX11_addsStock_38 : decode cX11_addsStock 38 = .ok (.iadd, 1) := by decide +kernel
theorem dX11_addsStock_39 : decode cX11_addsStock 39 = .ok (.iconst 1, 1) := by decide +kernel
theorem dX11_addsStock_40 : decode cX11_addsStock 40 = .ok (.isub, 1) := by decide +kernel
theorem dX11_addsStock_41 : decode cX11_addsStock 41 = .ok (.iaload, 1) := by decide +kernel
theorem dX11_addsStock_42 : decode cX11_addsStock 42 = .ok (.iastore, 1) := by decide +kernel
theorem dX11_addsStock_43 : decode cX11_addsStock 43 = .ok (.iinc 2 (-1), 3) := by decide +kernel
theorem dX11_addsStock_46 : decode cX11_addsStock 46 = .ok (.goto (-39), 3) := by decide +kernel
theorem dX11_addsStock_49 : decode cX11_addsStock 49 = .ok (.aload_n 0, 1) := by decide +kernel
theorem dX11_addsStock_50 : decode cX11_addsStock 50 = .ok (.getfield 22, 3) := by decide +kernel
theorem dX11_addsStock_53 : decode cX11_addsStock 53 = .ok (.iconst 1, 1) := by decide +kernel
theorem dX11_addsStock_54 : decode cX11_addsStock 54 = .ok (.iload_n 2, 1) := by decide +kernel
theorem dX11_addsStock_55 : decode cX11_addsStock 55 = .ok (.iadd, 1) := by decide +kernel
theorem dX11_addsStock_56 : decode cX11_addsStock 56 = .ok (.iload_n 1, 1) := by decide +kernel
theorem dX11_addsStock_57 : decode cX11_addsStock 57 = .ok (.iastore, 1) := by decide +kernel
theorem dX11_addsStock_58 : decode cX11_addsStock 58 = .ok (.aload_n 0, 1) := by decide +kernel
theorem dX11_addsStock_59 : decode cX11_addsStock 59 = .ok (.getfield 22, 3) := by decide +kernel
theorem dX11_addsStock_62 : decode cX11_addsStock 62 = .ok (.iconst 0, 1) := by decide +kernel
theorem dX11_addsStock_63 : decode cX11_addsStock 63 = .ok (.dup2, 1) := by decide +kernel
theorem dX11_addsStock_64 : decode cX11_addsStock 64 = .ok (.iaload, 1) := by decide +kernel
theorem dX11_addsStock_65 : decode cX11_addsStock 65 = .ok (.iconst 1, 1) := by decide +kernel
theorem dX11_addsStock_66 : decode cX11_addsStock 66 = .ok (.iadd, 1) := by decide +kernel
theorem dX11_addsStock_67 : decode cX11_addsStock 67 = .ok (.iastore, 1) := by decide +kernel
theorem dX11_addsStock_68 : decode cX11_addsStock 68 = .ok (.return_, 1) := by decide +kernel
theorem dX11_readStock_0 : decode cX11_readStock 0 = .ok (.aload_n 0, 1) := by decide +kernel
theorem dX11_readStock_1 : decode cX11_readStock 1 = .ok (.iconst 1, 1) := by decide +kernel
theorem dX11_readStock_2 : decode cX11_readStock 2 = .ok (.invokevirtual 165, 3) := by decide +kernel
theorem dX11_readStock_5 : decode cX11_readStock 5 = .ok (.ifCond .ne 5, 3) := by decide +kernel
theorem dX11_readStock_8 : decode cX11_readStock 8 = .ok (.iconst 0, 1) := by decide +kernel
theorem dX11_readStock_9 : decode cX11_readStock 9 = .ok (.ireturn, 1) := by decide +kernel
theorem dX11_readStock_10 : decode cX11_readStock 10 = .ok (.aload_n 0, 1) := by decide +kernel
theorem dX11_readStock_11 : decode cX11_readStock 11 = .ok (.bipush 8, 2) := by decide +kernel
theorem dX11_readStock_13 : decode cX11_readStock 13 = .ok (.bipush 100, 2) := by decide +kernel
theorem dX11_readStock_15 : decode cX11_readStock 15 = .ok (.invokevirtual 168, 3) := by decide +kernel
theorem dX11_readStock_18 : decode cX11_readStock 18 = .ok (.ifCond .ne 5, 3) := by decide +kernel
theorem dX11_readStock_21 : decode cX11_readStock 21 = .ok (.iconst 0, 1) := by decide +kernel
theorem dX11_readStock_22 : decode cX11_readStock 22 = .ok (.ireturn, 1) := by decide +kernel
theorem dX11_readStock_23 : decode cX11_readStock 23 = .ok (.aload_n 0, 1) := by decide +kernel
theorem dX11_readStock_24 : decode cX11_readStock 24 = .ok (.getfield 22, 3) := by decide +kernel
theorem dX11_readStock_27 : decode cX11_readStock 27 = .ok (.iconst 0, 1) := by decide +kernel
theorem dX11_readStock_28 : decode cX11_readStock 28 = .ok (.iaload, 1) := by decide +kernel
theorem dX11_readStock_29 : decode cX11_readStock 29 = .ok (.bipush 16, 2) := by decide +kernel
theorem dX11_readStock_31 : decode cX11_readStock 31 = .ok (.if_icmp .eq 14, 3) := by decide +kernel
theorem dX11_readStock_34 : decode cX11_readStock 34 = .ok (.aload_n 0, 1) := by decide +kernel
theorem dX11_readStock_35 : decode cX11_readStock 35 = .ok (.aload_n 0, 1) := by decide +kernel
theorem dX11_readStock_36 : decode cX11_readStock 36 = .ok (.getfield 85, 3) := by decide +kernel
theorem dX11_readStock_39 : decode cX11_readStock 39 = .ok (.invokevirtual 172, 3) := by decide +kernel
theorem dX11_readStock_42 : decode cX11_readStock 42 = .ok (.ifCond .eq 9, 3) := by decide +kernel
theorem dX11_readStock_45 : decode cX11_readStock 45 = .ok (.aload_n 0, 1) := by decide +kernel
theorem dX11_readStock_46 : decode cX11_readStock 46 = .ok (.iconst 4, 1) := by decide +kernel
theorem dX11_readStock_47 : decode cX11_readStock 47 = .ok (.invokevirtual 122, 3) := by decide +kernel
theorem dX11_readStock_50 : decode cX11_readStock 50 = .ok (.ireturn, 1) := by decide +kernel
theorem dX11_readStock_51 : decode cX11_readStock 51 = .ok (.aload_n 0, 1) := by decide +kernel
theorem dX11_readStock_52 : decode cX11_readStock 52 = .ok (.aload_n 0, 1) := by decide +kernel
theorem dX11_readStock_53 : decode cX11_readStock 53 = .ok (.getfield 85, 3) := by decide +kernel
theorem dX11_readStock_56 : decode cX11_readStock 56 = .ok (.invokevirtual 175, 3) := by decide +kernel
theorem dX11_readStock_59 : decode cX11_readStock 59 = .ok (.aload_n 0, 1) := by decide +kernel
theorem dX11_readStock_60 : decode cX11_readStock 60 = .ok (.invokevirtual 119, 3) := by decide +kernel
theorem dX11_readStock_63 : decode cX11_readStock 63 = .ok (.aload_n 0, 1) := by decide +kernel
theorem dX11_readStock_64 : decode cX11_readStock 64 = .ok (.getfield 88, 3) := by decide +kernel
theorem dX11_readStock_67 : decode cX11_readStock 67 = .ok (.iconst 2, 1) := by decide +kernel
theorem dX11_readStock_68 : decode cX11_readStock 68 = .ok (.if_icmp .eq (-58), 3) := by decide +kernel
theorem dX11_readStock_71 : decode cX11_readStock 71 = .ok (.iconst 1, 1) := by decide +kernel
theorem dX11_readStock_72 : decode cX11_readStock 72 = .ok (.ireturn, 1) := by decide +kernel
theorem dX11_readStart_0 : decode cX11_readStart 0 = .ok (.aload_n 0, 1) := by decide +kernel
theorem dX11_readStart_1 : decode cX11_readStart 1 = .ok (.iconst 2, 1) := by decide +kernel
theorem dX11_readStart_2 : decode cX11_readStart 2 = .ok (.invokevirtual 165, 3) := by decide +kernel
theorem dX11_readStart_5 : decode cX11_readStart 5 = .ok (.ifCond .eq 16, 3) := by decide +kernel
theorem dX11_readStart_8 : decode cX11_readStart 8 = .ok (.aload_n 0, 1) := by decide +kernel
theorem dX11_readStart_9 : decode cX11_readStart 9 = .ok (.sipush 1600, 3) := by decide +kernel
theorem dX11_readStart_12 : decode cX11_readStart 12 = .ok (.sipush 2400, 3) := by decide +kernel
theorem dX11_readStart_15 : decode cX11_readStart 15 = .ok (.invokevirtual 168, 3) := by decide +kernel
theorem dX11_readStart_18 : decode cX11_readStart 18 = .ok (.ifCond .ne 5, 3) := by decide +kernel
theorem dX11_readStart_21 : decode cX11_readStart 21 = .ok (.iconst 0, 1) := by decide +kernel
theorem dX11_readStart_22 : decode cX11_readStart 22 = .ok (.ireturn, 1) := by decide +kernel
theorem dX11_readStart_23 : decode cX11_readStart 23 = .ok (.aload_n 0, 1) := by decide +kernel
theorem dX11_readStart_24 : decode cX11_readStart 24 = .ok (.getfield 7, 3) := by decide +kernel
theorem dX11_readStart_27 : decode cX11_readStart 27 = .ok (.iconst 1, 1) := by decide +kernel
theorem dX11_readStart_28 : decode cX11_readStart 28 = .ok (.aload_n 0, 1) := by decide +kernel
theorem dX11_readStart_29 : decode cX11_readStart 29 = .ok (.getfield 85, 3) := by decide +kernel
theorem dX11_readStart_32 : decode cX11_readStart 32 = .ok (.iastore, 1) := by decide +kernel
theorem dX11_readStart_33 : decode cX11_readStart 33 = .ok (.aload_n 0, 1) := by decide +kernel
theorem dX11_readStart_34 : decode cX11_readStart 34 = .ok (.invokevirtual 119, 3) := by decide +kernel
theorem dX11_readStart_37 : decode cX11_readStart 37 = .ok (.iconst 1, 1) := by decide +kernel
theorem dX11_readStart_38 : decode cX11_readStart 38 = .ok (.ireturn, 1) := by decide +kernel
theorem dX11_readSlack_0 : decode cX11_readSlack 0 = .ok (.aload_n 0, 1) := by decide +kernel
theorem dX11_readSlack_1 : decode cX11_readSlack 1 = .ok (.iconst 4, 1) := by decide +kernel
theorem dX11_readSlack_2 : decode cX11_readSlack 2 = .ok (.invokevirtual 165, 3) := by decide +kernel
theorem dX11_readSlack_5 : decode cX11_readSlack 5 = .ok (.ifCond .eq 14, 3) := by decide +kernel
theorem dX11_readSlack_8 : decode cX11_readSlack 8 = .ok (.aload_n 0, 1) := by decide +kernel
theorem dX11_readSlack_9 : decode cX11_readSlack 9 = .ok (.iconst 0, 1) := by decide +kernel
theorem dX11_readSlack_10 : decode cX11_readSlack 10 = .ok (.sipush 999, 3) := by decide +kernel
theorem dX11_readSlack_13 : decode cX11_readSlack 13 = .ok (.invokevirtual 168, 3) := by decide +kernel
theorem dX11_readSlack_16 : decode cX11_readSlack 16 = .ok (.ifCond .ne 5, 3) := by decide +kernel
theorem dX11_readSlack_19 : decode cX11_readSlack 19 = .ok (.iconst 0, 1) := by decide +kernel
theorem dX11_readSlack_20 : decode cX11_readSlack 20 = .ok (.ireturn, 1) := by decide +kernel
theorem dX11_readSlack_21 : decode cX11_readSlack 21 = .ok (.aload_n 0, 1) := by decide +kernel
theorem dX11_readSlack_22 : decode cX11_readSlack 22 = .ok (.getfield 22, 3) := by decide +kernel
theorem dX11_readSlack_25 : decode cX11_readSlack 25 = .ok (.bipush 17, 2) := by decide +kernel
theorem dX11_readSlack_27 : decode cX11_readSlack 27 = .ok (.aload_n 0, 1) := by decide +kernel
theorem dX11_readSlack_28 : decode cX11_readSlack 28 = .ok (.getfield 85, 3) := by decide +kernel
theorem dX11_readSlack_31 : decode cX11_readSlack 31 = .ok (.iastore, 1) := by decide +kernel
theorem dX11_readSlack_32 : decode cX11_readSlack 32 = .ok (.aload_n 0, 1) := by decide +kernel
theorem dX11_readSlack_33 : decode cX11_readSlack 33 = .ok (.invokevirtual 119, 3) := by decide +kernel
theorem dX11_readSlack_36 : decode cX11_readSlack 36 = .ok (.iconst 1, 1) := by decide +kernel
theorem dX11_readSlack_37 : decode cX11_readSlack 37 = .ok (.ireturn, 1) := by decide +kernel
theorem dX11_readBody_0 : decode cX11_readBody 0 = .ok (.aload_n 0, 1) := by decide +kernel
theorem dX11_readBody_1 : decode cX11_readBody 1 = .ok (.aload_n 0, 1) := by decide +kernel
theorem dX11_readBody_2 : decode cX11_readBody 2 = .ok (.getfield 7, 3) := by decide +kernel
theorem dX11_readBody_5 : decode cX11_readBody 5 = .ok (.iconst 0, 1) := by decide +kernel
theorem dX11_readBody_6 : decode cX11_readBody 6 = .ok (.iaload, 1) := by decide +kernel
theorem dX11_readBody_7 : decode cX11_readBody 7 = .ok (.bipush 8, 2) := by decide +kernel
theorem dX11_readBody_9 : decode cX11_readBody 9 = .ok (.if_icmp .ge 7, 3) := by decide +kernel
theorem dX11_readBody_12 : decode cX11_readBody 12 = .ok (.iconst 1, 1) := by decide +kernel
theorem dX11_readBody_13 : decode cX11_readBody 13 = .ok (.goto 4, 3) := by decide +kernel
theorem dX11_readBody_16 : decode cX11_readBody 16 = .ok (.iconst 0, 1) := by decide +kernel
theorem dX11_readBody_17 : decode cX11_readBody 17 = .ok (.invokevirtual 161, 3) := by decide +kernel
theorem dX11_readBody_20 : decode cX11_readBody 20 = .ok (.ifCond .eq 10, 3) := by decide +kernel
theorem dX11_readBody_23 : decode cX11_readBody 23 = .ok (.aload_n 0, 1) := by decide +kernel
theorem dX11_readBody_24 : decode cX11_readBody 24 = .ok (.invokevirtual 152, 3) := by decide +kernel
theorem dX11_readBody_27 : decode cX11_readBody 27 = .ok (.ifCond .ne 5, 3) := by decide +kernel
theorem dX11_readBody_30 : decode cX11_readBody 30 = .ok (.iconst 0, 1) := by decide +kernel
theorem dX11_readBody_31 : decode cX11_readBody 31 = .ok (.ireturn, 1) := by decide +kernel
theorem dX11_readBody_32 : decode cX11_readBody 32 = .ok (.aload_n 0, 1) := by decide +kernel
theorem dX11_readBody_33 : decode cX11_readBody 33 = .ok (.invokevirtual 155, 3) := by decide +kernel
theorem dX11_readBody_36 : decode cX11_readBody 36 = .ok (.iconst (-1), 1) := by decide +kernel
theorem dX11_readBody_37 : decode cX11_readBody 37 = .ok (.if_icmp .eq 9, 3) := by decide +kernel
theorem dX11_readBody_40 : decode cX11_readBody 40 = .ok (.aload_n 0, 1) := by decide +kernel
theorem dX11_readBody_41 : decode cX11_readBody 41 = .ok (.iconst 3, 1) := by decide +kernel
theorem dX11_readBody_42 : decode cX11_readBody 42 = .ok (.invokevirtual 122, 3) := by decide +kernel
theorem dX11_readBody_45 : decode cX11_readBody 45 = .ok (.ireturn, 1) := by decide +kernel
theorem dX11_readBody_46 : decode cX11_readBody 46 = .ok (.aload_n 0, 1) := by decide +kernel
theorem dX11_readBody_47 : decode cX11_readBody 47 = .ok (.getfield 7, 3) := by decide +kernel
theorem dX11_readBody_50 : decode cX11_readBody 50 = .ok (.iconst 0, 1) := by decide +kernel
theorem dX11_readBody_51 : decode cX11_readBody 51 = .ok (.iaload, 1) := by decide +kernel
theorem dX11_readBody_52 : decode cX11_readBody 52 = .ok (.istore_n 1, 1) := by decide +kernel
theorem dX11_readBody_53 : decode cX11_readBody 53 = .ok (.iconst 2, 1) := by decide +kernel
theorem dX11_readBody_54 : decode cX11_readBody 54 = .ok (.iconst 3, 1) := by decide +kernel
theorem dX11_readBody_55 : decode cX11_readBody 55 = .ok (.iload_n 1, 1) := by decide +kernel
theorem dX11_readBody_56 : decode cX11_readBody 56 = .ok (.imul, 1) := by decide +kernel
theorem dX11_readBody_57 : decode cX11_readBody 57 = .ok (.iadd, 1) := by decide +kernel
theorem dX11_readBody_58 : decode cX11_readBody 58 = .ok (.istore_n 2, 1) := by decide +kernel
theorem dX11_readBody_59 : decode cX11_readBody 59 = .ok (.iconst 0, 1) := by decide +kernel
theorem dX11_readBody_60 : decode cX11_readBody 60 = .ok (.istore_n 3, 1) := by decide +kernel
theorem dX11_readBody_61 : decode cX11_readBody 61 = .ok (.iload_n 3, 1) := by decide +kernel
theorem dX11_readBody_62 : decode cX11_readBody 62 = .ok (.bipush 8, 2) := by decide +kernel
theorem dX11_readBody_64 : decode cX11_readBody 64 = .ok (.if_icmp .ge 48, 3) := by decide +kernel
theorem dX11_readBody_67 : decode cX11_readBody 67 = .ok (.aload_n 0, 1) := by decide +kernel
theorem dX11_readBody_68 : decode cX11_readBody 68 = .ok (.getfield 16, 3) := by decide +kernel
theorem dX11_readBody_71 : decode cX11_readBody 71 = .ok (.bipush 8, 2) := by decide +kernel
theorem dX11_readBody_73 : decode cX11_readBody 73 = .ok (.iload_n 1, 1) := by decide +kernel
theorem dX11_readBody_74 : decode cX11_readBody 74 = .ok (.imul, 1) := by decide +kernel
theorem dX11_readBody_75 : decode cX11_readBody 75 = .ok (.iload_n 3, 1) := by decide +kernel
theorem dX11_readBody_76 : decode cX11_readBody 76 = .ok (.iadd, 1) := by decide +kernel
theorem dX11_readBody_77 : decode cX11_readBody 77 = .ok (.iload_n 3, 1) := by decide +kernel
theorem dX11_readBody_78 : decode cX11_readBody 78 = .ok (.aload_n 0, 1) := by decide +kernel
theorem dX11_readBody_79 : decode cX11_readBody 79 = .ok (.getfield 75, 3) := by decide +kernel
theorem dX11_readBody_82 : decode cX11_readBody 82 = .ok (.aload_n 0, 1) := by decide +kernel
theorem dX11_readBody_83 : decode cX11_readBody 83 = .ok (.getfield 82, 3) := by decide +kernel
theorem dX11_readBody_86 : decode cX11_readBody 86 = .ok (.isub, 1) := by decide +kernel
theorem dX11_readBody_87 : decode cX11_readBody 87 = .ok (.if_icmp .ge 17, 3) := by decide +kernel
theorem dX11_readBody_90 : decode cX11_readBody 90 = .ok (.aload_n 0, 1) := by decide +kernel
theorem dX11_readBody_91 : decode cX11_readBody 91 = .ok (.getfield 34, 3) := by decide +kernel
theorem dX11_readBody_94 : decode cX11_readBody 94 = .ok (.aload_n 0, 1) := by decide +kernel
theorem dX11_readBody_95 : decode cX11_readBody 95 = .ok (.getfield 82, 3) := by decide +kernel
theorem dX11_readBody_98 : decode cX11_readBody 98 = .ok (.iload_n 3, 1) := by decide +kernel
theorem dX11_readBody_99 : decode cX11_readBody 99 = .ok (.iadd, 1) := by decide +kernel
theorem dX11_readBody_100 : decode cX11_readBody 100 = .ok (.iaload, 1) := by decide +kernel
theorem dX11_readBody_101 : decode cX11_readBody 101 = .ok (.goto 4, 3) := by decide +kernel
theorem dX11_readBody_104 : decode cX11_readBody 104 = .ok (.iconst 0, 1) := by decide +kernel
theorem dX11_readBody_105 : decode cX11_readBody 105 = .ok (.iastore, 1) := by decide +kernel
theorem dX11_readBody_106 : decode cX11_readBody 106 = .ok (.iinc 3 1, 3) := by decide +kernel
theorem dX11_readBody_109 : decode cX11_readBody 109 = .ok (.goto (-48), 3) := by decide +kernel
theorem dX11_readBody_112 : decode cX11_readBody 112 = .ok (.aload_n 0, 1) := by decide +kernel
theorem dX11_readBody_113 : decode cX11_readBody 113 = .ok (.invokevirtual 119, 3) := by decide +kernel
theorem dX11_readBody_116 : decode cX11_readBody 116 = .ok (.aload_n 0, 1) := by decide +kernel
theorem dX11_readBody_117 : decode cX11_readBody 117 = .ok (.ldc 134, 2) := by decide +kernel
theorem dX11_readBody_119 : decode cX11_readBody 119 = .ok (.invokevirtual 178, 3) := by decide +kernel
theorem dX11_readBody_122 : decode cX11_readBody 122 = .ok (.ifCond .ne 9, 3) := by decide +kernel
theorem dX11_readBody_125 : decode cX11_readBody 125 = .ok (.aload_n 0, 1) := by decide +kernel
theorem dX11_readBody_126 : decode cX11_readBody 126 = .ok (.iconst 1, 1) := by decide +kernel
theorem dX11_readBody_127 : decode cX11_readBody 127 = .ok (.invokevirtual 122, 3) := by decide +kernel
theorem dX11_readBody_130 : decode cX11_readBody 130 = .ok (.ireturn, 1) := by decide +kernel
theorem dX11_readBody_131 : decode cX11_readBody 131 = .ok (.aload_n 0, 1) := by decide +kernel
theorem dX11_readBody_132 : decode cX11_readBody 132 = .ok (.bipush 100, 2) := by decide +kernel
theorem dX11_readBody_134 : decode cX11_readBody 134 = .ok (.ldc 181, 2) := by decide +kernel
theorem dX11_readBody_136 : decode cX11_readBody 136 = .ok (.invokevirtual 168, 3) := by decide +kernel
theorem dX11_readBody_139 : decode cX11_readBody 139 = .ok (.ifCond .ne 5, 3) := by decide +kernel
theorem dX11_readBody_142 : decode cX11_readBody 142 = .ok (.iconst 0, 1) := by decide +kernel
theorem dX11_readBody_143 : decode cX11_readBody 143 = .ok (.ireturn, 1) := by decide +kernel
theorem dX11_readBody_144 : decode cX11_readBody 144 = .ok (.aload_n 0, 1) := by decide +kernel
theorem dX11_readBody_145 : decode cX11_readBody 145 = .ok (.getfield 7, 3) := by decide +kernel
theorem dX11_readBody_148 : decode cX11_readBody 148 = .ok (.iload_n 2, 1) := by decide +kernel
theorem dX11_readBody_149 : decode cX11_readBody 149 = .ok (.iconst 0, 1) := by decide +kernel
theorem dX11_readBody_150 : decode cX11_readBody 150 = .ok (.iadd, 1) := by decide +kernel
theorem dX11_readBody_151 : decode cX11_readBody 151 = .ok (.aload_n 0, 1) := by decide +kernel
theorem dX11_readBody_152 : decode cX11_readBody 152 = .ok (.getfield 85, 3) := by decide +kernel
theorem dX11_readBody_155 : decode cX11_readBody 155 = .ok (.iastore, 1) := by decide +kernel
theorem dX11_readBody_156 : decode cX11_readBody 156 = .ok (.aload_n 0, 1) := by decide +kernel
theorem dX11_readBody_157 : decode cX11_readBody 157 = .ok (.invokevirtual 119, 3) := by decide +kernel
theorem dX11_readBody_160 : decode cX11_readBody 160 = .ok (.aload_n 0, 1) := by decide +kernel
theorem dX11_readBody_161 : decode cX11_readBody 161 = .ok (.getfield 7, 3) := by decide +kernel
theorem dX11_readBody_164 : decode cX11_readBody 164 = .ok (.iload_n 2, 1) := by decide +kernel
theorem dX11_readBody_165 : decode cX11_readBody 165 = .ok (.iconst 1, 1) := by decide +kernel
theorem dX11_readBody_166 : decode cX11_readBody 166 = .ok (.iadd, 1) := by decide +kernel
theorem dX11_readBody_167 : decode cX11_readBody 167 = .ok (.aload_n 0, 1) := by decide +kernel
theorem dX11_readBody_168 : decode cX11_readBody 168 = .ok (.ldc 136, 2) := by decide +kernel
theorem dX11_readBody_170 : decode cX11_readBody 170 = .ok (.invokevirtual 178, 3) := by decide +kernel
theorem dX11_readBody_173 : decode cX11_readBody 173 = .ok (.ifCond .eq 7, 3) := by decide +kernel
theorem dX11_readBody_176 : decode cX11_readBody 176 = .ok (.iconst 1, 1) := by decide +kernel
theorem dX11_readBody_177 : decode cX11_readBody 177 = .ok (.goto 4, 3) := by decide +kernel
theorem dX11_readBody_180 : decode cX11_readBody 180 = .ok (.iconst 0, 1) := by decide +kernel
theorem dX11_readBody_181 : decode cX11_readBody 181 = .ok (.iastore, 1) := by decide +kernel
theorem dX11_readBody_182 : decode cX11_readBody 182 = .ok (.aload_n 0, 1) := by decide +kernel
theorem dX11_readBody_183 : decode cX11_readBody 183 = .ok (.getfield 7, 3) := by decide +kernel
theorem dX11_readBody_186 : decode cX11_readBody 186 = .ok (.iload_n 2, 1) := by decide +kernel
theorem dX11_readBody_187 : decode cX11_readBody 187 = .ok (.iconst 2, 1) := by decide +kernel
theorem dX11_readBody_188 : decode cX11_readBody 188 = .ok (.iadd, 1) := by decide +kernel
theorem dX11_readBody_189 : decode cX11_readBody 189 = .ok (.iconst (-1), 1) := by decide +kernel
theorem dX11_readBody_190 : decode cX11_readBody 190 = .ok (.iastore, 1) := by decide +kernel
theorem dX11_readBody_191 : decode cX11_readBody 191 = .ok (.aload_n 0, 1) := by decide +kernel
theorem dX11_readBody_192 : decode cX11_readBody 192 = .ok (.ldc 138, 2) := by decide +kernel
theorem dX11_readBody_194 : decode cX11_readBody 194 = .ok (.invokevirtual 178, 3) := by decide +kernel
theorem dX11_readBody_197 : decode cX11_readBody 197 = .ok (.ifCond .eq 44, 3) := by decide +kernel
theorem dX11_readBody_200 : decode cX11_readBody 200 = .ok (.aload_n 0, 1) := by decide +kernel
theorem dX11_readBody_201 : decode cX11_readBody 201 = .ok (.invokevirtual 182, 3) := by decide +kernel
theorem dX11_readBody_204 : decode cX11_readBody 204 = .ok (.istore_n 3, 1) := by decide +kernel
theorem dX11_readBody_205 : decode cX11_readBody 205 = .ok (.iload_n 3, 1) := by decide +kernel
theorem dX11_readBody_206 : decode cX11_readBody 206 = .ok (.iconst (-1), 1) := by decide +kernel
theorem dX11_readBody_207 : decode cX11_readBody 207 = .ok (.if_icmp .ne 5, 3) := by decide +kernel
theorem dX11_readBody_210 : decode cX11_readBody 210 = .ok (.iconst 0, 1) := by decide +kernel
theorem dX11_readBody_211 : decode cX11_readBody 211 = .ok (.ireturn, 1) := by decide +kernel
theorem dX11_readBody_212 : decode cX11_readBody 212 = .ok (.aload_n 0, 1) := by decide +kernel
theorem dX11_readBody_213 : decode cX11_readBody 213 = .ok (.iload_n 3, 1) := by decide +kernel
theorem dX11_readBody_214 : decode cX11_readBody 214 = .ok (.iconst 2, 1) := by decide +kernel
theorem dX11_readBody_215 : decode cX11_readBody 215 = .ok (.invokevirtual 185, 3) := by decide +kernel
theorem dX11_readBody_218 : decode cX11_readBody 218 = .ok (.iconst (-1), 1) := by decide +kernel
theorem dX11_readBody_219 : decode cX11_readBody 219 = .ok (.if_icmp .eq 9, 3) := by decide +kernel
theorem dX11_readBody_222 : decode cX11_readBody 222 = .ok (.aload_n 0, 1) := by decide +kernel
theorem dX11_readBody_223 : decode cX11_readBody 223 = .ok (.iconst 3, 1) := by decide +kernel
theorem dX11_readBody_224 : decode cX11_readBody 224 = .ok (.invokevirtual 122, 3) := by decide +kernel
theorem dX11_readBody_227 : decode cX11_readBody 227 = .ok (.ireturn, 1) := by decide +kernel
theorem dX11_readBody_228 : decode cX11_readBody 228 = .ok (.aload_n 0, 1) := by decide +kernel
theorem dX11_readBody_229 : decode cX11_readBody 229 = .ok (.getfield 7, 3) := by decide +kernel
theorem dX11_readBody_232 : decode cX11_readBody 232 = .ok (.iload_n 2, 1) := by decide +kernel
theorem dX11_readBody_233 : decode cX11_readBody 233 = .ok (.iconst 2, 1) := by decide +kernel
theorem dX11_readBody_234 : decode cX11_readBody 234 = .ok (.iadd, 1) := by decide +kernel
theorem dX11_readBody_235 : decode cX11_readBody 235 = .ok (.iload_n 3, 1) := by decide +kernel
theorem dX11_readBody_236 : decode cX11_readBody 236 = .ok (.iastore, 1) := by decide +kernel
theorem dX11_readBody_237 : decode cX11_readBody 237 = .ok (.aload_n 0, 1) := by decide +kernel
theorem dX11_readBody_238 : decode cX11_readBody 238 = .ok (.invokevirtual 119, 3) := by decide +kernel
theorem dX11_readBody_241 : decode cX11_readBody 241 = .ok (.aload_n 0, 1) := by decide +kernel
theorem dX11_readBody_242 : decode cX11_readBody 242 = .ok (.getfield 7, 3) := by decide +kernel
theorem dX11_readBody_245 : decode cX11_readBody 245 = .ok (.iconst 0, 1) := by decide +kernel
theorem dX11_readBody_246 : decode cX11_readBody 246 = .ok (.dup2, 1) := by decide +kernel
theorem dX11_readBody_247 : decode cX11_readBody 247 = .ok (.iaload, 1) := by decide +kernel
theorem dX11_readBody_248 : decode cX11_readBody 248 = .ok (.iconst 1, 1) := by decide +kernel
theorem dX11_readBody_249 : decode cX11_readBody 249 = .ok (.iadd, 1) := by decide +kernel
theorem dX11_readBody_250 : decode cX11_readBody 250 = .ok (.iastore, 1) := by decide +kernel
theorem dX11_readBody_251 : decode cX11_readBody 251 = .ok (.iconst 1, 1) := by decide +kernel
theorem dX11_readBody_252 : decode cX11_readBody 252 = .ok (.ireturn, 1) := by decide +kernel
theorem dX11_kindHere_0 : decode cX11_kindHere 0 = .ok (.aload_n 0, 1) := by decide +kernel
theorem dX11_kindHere_1 : decode cX11_kindHere 1 = .ok (.ldc 142, 2) := by decide +kernel
theorem dX11_kindHere_3 : decode cX11_kindHere 3 = .ok (.invokevirtual 115, 3) := by decide +kernel
theorem dX11_kindHere_6 : decode cX11_kindHere 6 = .ok (.ifCond .eq 7, 3) := by decide +kernel
theorem dX11_kindHere_9 : decode cX11_kindHere 9 = .ok (.iconst 0, 1) := by decide +kernel
theorem dX11_kindHere_10 : decode cX11_kindHere 10 = .ok (.goto 30, 3) := by decide +kernel
theorem dX11_kindHere_13 : decode cX11_kindHere 13 = .ok (.aload_n 0, 1) := by decide +kernel
theorem dX11_kindHere_14 : decode cX11_kindHere 14 = .ok (.ldc 144, 2) := by decide +kernel
theorem dX11_kindHere_16 : decode cX11_kindHere 16 = .ok (.invokevirtual 115, 3) := by decide +kernel
theorem dX11_kindHere_19 : decode cX11_kindHere 19 = .ok (.ifCond .eq 7, 3) := by decide +kernel
theorem dX11_kindHere_22 : decode cX11_kindHere 22 = .ok (.iconst 1, 1) := by decide +kernel
theorem dX11_kindHere_23 : decode cX11_kindHere 23 = .ok (.goto 17, 3) := by decide +kernel
theorem dX11_kindHere_26 : decode cX11_kindHere 26 = .ok (.aload_n 0, 1) := by decide +kernel
theorem dX11_kindHere_27 : decode cX11_kindHere 27 = .ok (.ldc 146, 2) := by decide +kernel
theorem dX11_kindHere_29 : decode cX11_kindHere 29 = .ok (.invokevirtual 115, 3) := by decide +kernel
theorem dX11_kindHere_32 : decode cX11_kindHere 32 = .ok (.ifCond .eq 7, 3) := by decide +kernel
theorem dX11_kindHere_35 : decode cX11_kindHere 35 = .ok (.iconst 2, 1) := by decide +kernel
theorem dX11_kindHere_36 : decode cX11_kindHere 36 = .ok (.goto 4, 3) := by decide +kernel
theorem dX11_kindHere_39 : decode cX11_kindHere 39 = .ok (.iconst (-1), 1) := by decide +kernel
theorem dX11_kindHere_40 : decode cX11_kindHere 40 = .ok (.ireturn, 1) := by decide +kernel
theorem dX11_gears_0 : decode cX11_gears 0 = .ok (.iconst 0, 1) := by decide +kernel
theorem dX11_gears_1 : decode cX11_gears 1 = .ok (.istore_n 2, 1) := by decide +kernel
theorem dX11_gears_2 : decode cX11_gears 2 = .ok (.iconst 0, 1) := by decide +kernel
theorem dX11_gears_3 : decode cX11_gears 3 = .ok (.istore_n 3, 1) := by decide +kernel
theorem dX11_gears_4 : decode cX11_gears 4 = .ok (.iload_n 3, 1) := by decide +kernel
theorem dX11_gears_5 : decode cX11_gears 5 = .ok (.aload_n 0, 1) := by decide +kernel
theorem dX11_gears_6 : decode cX11_gears 6 = .ok (.iload_n 1, 1) := by decide +kernel
theorem dX11_gears_7 : decode cX11_gears 7 = .ok (.invokevirtual 188, 3) := by decide +kernel
theorem dX11_gears_10 : decode cX11_gears 10 = .ok (.if_icmp .ge 28, 3) := by decide +kernel
theorem dX11_gears_13 : decode cX11_gears 13 = .ok (.iload_n 2, 1) := by decide +kernel
theorem dX11_gears_14 : decode cX11_gears 14 = .ok (.aload_n 0, 1) := by decide +kernel
theorem dX11_gears_15 : decode cX11_gears 15 = .ok (.iload_n 1, 1) := by decide +kernel
theorem dX11_gears_16 : decode cX11_gears 16 = .ok (.iload_n 3, 1) := by decide +kernel
theorem dX11_gears_17 : decode cX11_gears 17 = .ok (.iconst 0, 1) := by decide +kernel
theorem dX11_gears_18 : decode cX11_gears 18 = .ok (.invokevirtual 191, 3) := by decide +kernel
theorem dX11_gears_21 : decode cX11_gears 21 = .ok (.iconst 2, 1) := by decide +kernel
theorem dX11_gears_22 : decode cX11_gears 22 = .ok (.if_icmp .eq 7, 3) := by decide +kernel
theorem dX11_gears_25 : decode cX11_gears 25 = .ok (.iconst 1, 1) := by decide +kernel
theorem dX11_gears_26 : decode cX11_gears 26 = .ok (.goto 4, 3) := by decide +kernel
theorem dX11_gears_29 : decode cX11_gears 29 = .ok (.iconst 0, 1) := by decide +kernel
theorem dX11_gears_30 : decode cX11_gears 30 = .ok (.iadd, 1) := by decide +kernel
theorem dX11_gears_31 : decode cX11_gears 31 = .ok (.istore_n 2, 1) := by decide +kernel
theorem dX11_gears_32 : decode cX11_gears 32 = .ok (.iinc 3 1, 3) := by decide +kernel
theorem dX11_gears_35 : decode cX11_gears 35 = .ok (.goto (-31), 3) := by decide +kernel
theorem dX11_gears_38 : decode cX11_gears 38 = .ok (.iload_n 2, 1) := by decide +kernel
theorem dX11_gears_39 : decode cX11_gears 39 = .ok (.ireturn, 1) := by decide +kernel
theorem dX11_hasRoom_0 : decode cX11_hasRoom 0 = .ok (.aload_n 0, 1) := by decide +kernel
theorem dX11_hasRoom_1 : decode cX11_hasRoom 1 = .ok (.iload_n 1, 1) := by decide +kernel
theorem dX11_hasRoom_2 : decode cX11_hasRoom 2 = .ok (.invokevirtual 188, 3) := by decide +kernel
theorem dX11_hasRoom_5 : decode cX11_hasRoom 5 = .ok (.iconst 4, 1) := by decide +kernel
theorem dX11_hasRoom_6 : decode cX11_hasRoom 6 = .ok (.if_icmp .ge 21, 3) := by decide +kernel
theorem dX11_hasRoom_9 : decode cX11_hasRoom 9 = .ok (.iload_n 2, 1) := by decide +kernel
theorem dX11_hasRoom_10 : decode cX11_hasRoom 10 = .ok (.iconst 2, 1) := by decide +kernel
theorem dX11_hasRoom_11 : decode cX11_hasRoom 11 = .ok (.if_icmp .eq 12, 3) := by decide +kernel
theorem dX11_hasRoom_14 : decode cX11_hasRoom 14 = .ok (.aload_n 0, 1) := by decide +kernel
theorem dX11_hasRoom_15 : decode cX11_hasRoom 15 = .ok (.iload_n 1, 1) := by decide +kernel
theorem dX11_hasRoom_16 : decode cX11_hasRoom 16 = .ok (.invokevirtual 195, 3) := by decide +kernel
theorem dX11_hasRoom_19 : decode cX11_hasRoom 19 = .ok (.iconst 2, 1) := by decide +kernel
theorem dX11_hasRoom_20 : decode cX11_hasRoom 20 = .ok (.if_icmp .ge 7, 3) := by decide +kernel
theorem dX11_hasRoom_23 : decode cX11_hasRoom 23 = .ok (.iconst 1, 1) := by decide +kernel
theorem dX11_hasRoom_24 : decode cX11_hasRoom 24 = .ok (.goto 4, 3) := by decide +kernel
theorem dX11_hasRoom_27 : decode cX11_hasRoom 27 = .ok (.iconst 0, 1) := by decide +kernel
theorem dX11_hasRoom_28 : decode cX11_hasRoom 28 = .ok (.ireturn, 1) := by decide +kernel
theorem dX11_addsPart_0 : decode cX11_addsPart 0 = .ok (.iload_n 1, 1) := by decide +kernel
theorem dX11_addsPart_1 : decode cX11_addsPart 1 = .ok (.iconst 2, 1) := by decide +kernel
theorem dX11_addsPart_2 : decode cX11_addsPart 2 = .ok (.iconst 3, 1) := by decide +kernel
theorem dX11_addsPart_3 : decode cX11_addsPart 3 = .ok (.aload_n 0, 1) := by decide +kernel
theorem dX11_addsPart_4 : decode cX11_addsPart 4 = .ok (.iload_n 1, 1) := by decide +kernel
theorem dX11_addsPart_5 : decode cX11_addsPart 5 = .ok (.invokevirtual 188, 3) := by decide +kernel
theorem dX11_addsPart_8 : decode cX11_addsPart 8 = .ok (.imul, 1) := by decide +kernel
theorem dX11_addsPart_9 : decode cX11_addsPart 9 = .ok (.iadd, 1) := by decide +kernel
theorem dX11_addsPart_10 : decode cX11_addsPart 10 = .ok (.invokestatic 53, 3) := by decide +kernel
theorem dX11_addsPart_13 : decode cX11_addsPart 13 = .ok (.istore 5, 2) := by decide +kernel
theorem dX11_addsPart_15 : decode cX11_addsPart 15 = .ok (.aload_n 0, 1) := by decide +kernel
theorem dX11_addsPart_16 : decode cX11_addsPart 16 = .ok (.getfield 22, 3) := by decide +kernel
theorem dX11_addsPart_19 : decode cX11_addsPart 19 = .ok (.iload 5, 2) := by decide +kernel
theorem dX11_addsPart_21 : decode cX11_addsPart 21 = .ok (.iload_n 2, 1) := by decide +kernel
theorem dX11_addsPart_22 : decode cX11_addsPart 22 = .ok (.iastore, 1) := by decide +kernel
theorem dX11_addsPart_23 : decode cX11_addsPart 23 = .ok (.aload_n 0, 1) := by decide +kernel
theorem dX11_addsPart_24 : decode cX11_addsPart 24 = .ok (.getfield 22, 3) := by decide +kernel
theorem dX11_addsPart_27 : decode cX11_addsPart 27 = .ok (.iload 5, 2) := by decide +kernel
theorem dX11_addsPart_29 : decode cX11_addsPart 29 = .ok (.iconst 1, 1) := by decide +kernel
theorem dX11_addsPart_30 : decode cX11_addsPart 30 = .ok (.iadd, 1) := by decide +kernel
theorem dX11_addsPart_31 : decode cX11_addsPart 31 = .ok (.iload_n 3, 1) := by decide +kernel
theorem dX11_addsPart_32 : decode cX11_addsPart 32 = .ok (.iastore, 1) := by decide +kernel
theorem dX11_addsPart_33 : decode cX11_addsPart 33 = .ok (.aload_n 0, 1) := by decide +kernel
theorem dX11_addsPart_34 : decode cX11_addsPart 34 = .ok (.getfield 22, 3) := by decide +kernel
theorem dX11_addsPart_37 : decode cX11_addsPart 37 = .ok (.iload 5, 2) := by decide +kernel
theorem dX11_addsPart_39 : decode cX11_addsPart 39 = .ok (.iconst 2, 1) := by decide +kernel
theorem dX11_addsPart_40 : decode cX11_addsPart 40 = .ok (.iadd, 1) := by decide +kernel
theorem dX11_addsPart_41 : decode cX11_addsPart 41 = .ok (.iload 4, 2) := by decide +kernel
theorem dX11_addsPart_43 : decode cX11_addsPart 43 = .ok (.iastore, 1) := by decide +kernel
theorem dX11_addsPart_44 : decode cX11_addsPart 44 = .ok (.aload_n 0, 1) := by decide +kernel
theorem dX11_addsPart_45 : decode cX11_addsPart 45 = .ok (.getfield 22, 3) := by decide +kernel
theorem dX11_addsPart_48 : decode cX11_addsPart 48 = .ok (.iload_n 1, 1) := by decide +kernel
theorem dX11_addsPart_49 : decode cX11_addsPart 49 = .ok (.iconst 0, 1) := by decide +kernel
theorem dX11_addsPart_50 : decode cX11_addsPart 50 = .ok (.invokestatic 53, 3) := by decide +kernel
theorem dX11_addsPart_53 : decode cX11_addsPart 53 = .ok (.dup2, 1) := by decide +kernel
theorem dX11_addsPart_54 : decode cX11_addsPart 54 = .ok (.iaload, 1) := by decide +kernel
theorem dX11_addsPart_55 : decode cX11_addsPart 55 = .ok (.iconst 1, 1) := by decide +kernel
theorem dX11_addsPart_56 : decode cX11_addsPart 56 = .ok (.iadd, 1) := by decide +kernel
theorem dX11_addsPart_57 : decode cX11_addsPart 57 = .ok (.iastore, 1) := by decide +kernel
theorem dX11_addsPart_58 : decode cX11_addsPart 58 = .ok (.return_, 1) := by decide +kernel
theorem dX11_readPart_0 : decode cX11_readPart 0 = .ok (.aload_n 0, 1) := by decide +kernel
theorem dX11_readPart_1 : decode cX11_readPart 1 = .ok (.invokevirtual 198, 3) := by decide +kernel
theorem dX11_readPart_4 : decode cX11_readPart 4 = .ok (.istore_n 2, 1) := by decide +kernel
theorem dX11_readPart_5 : decode cX11_readPart 5 = .ok (.iload_n 2, 1) := by decide +kernel
theorem dX11_readPart_6 : decode cX11_readPart 6 = .ok (.iconst (-1), 1) := by decide +kernel
theorem dX11_readPart_7 : decode cX11_readPart 7 = .ok (.if_icmp .ne 9, 3) := by decide +kernel
theorem dX11_readPart_10 : decode cX11_readPart 10 = .ok (.aload_n 0, 1) := by decide +kernel
theorem dX11_readPart_11 : decode cX11_readPart 11 = .ok (.iconst 1, 1) := by decide +kernel
theorem dX11_readPart_12 : decode cX11_readPart 12 = .ok (.invokevirtual 122, 3) := by decide +kernel
theorem dX11_readPart_15 : decode cX11_readPart 15 = .ok (.ireturn, 1) := by decide +kernel
theorem dX11_readPart_16 : decode cX11_readPart 16 = .ok (.aload_n 0, 1) := by decide +kernel
theorem dX11_readPart_17 : decode cX11_readPart 17 = .ok (.aload_n 0, 1) := by decide +kernel
theorem dX11_readPart_18 : decode cX11_readPart 18 = .ok (.iload_n 1, 1) := by decide +kernel
theorem dX11_readPart_19 : decode cX11_readPart 19 = .ok (.iload_n 2, 1) := by decide +kernel
theorem dX11_readPart_20 : decode cX11_readPart 20 = .ok (.invokevirtual 201, 3) := by decide +kernel
theorem dX11_readPart_23 : decode cX11_readPart 23 = .ok (.invokevirtual 161, 3) := by decide +kernel
theorem dX11_readPart_26 : decode cX11_readPart 26 = .ok (.ifCond .eq 14, 3) := by decide +kernel
theorem dX11_readPart_29 : decode cX11_readPart 29 = .ok (.aload_n 0, 1) := by decide +kernel
theorem dX11_readPart_30 : decode cX11_readPart 30 = .ok (.bipush 8, 2) := by decide +kernel
theorem dX11_readPart_32 : decode cX11_readPart 32 = .ok (.bipush 100, 2) := by decide +kernel
theorem dX11_readPart_34 : decode cX11_readPart 34 = .ok (.invokevirtual 168, 3) := by decide +kernel
theorem dX11_readPart_37 : decode cX11_readPart 37 = .ok (.ifCond .ne 5, 3) := by decide +kernel
theorem dX11_readPart_40 : decode cX11_readPart 40 = .ok (.iconst 0, 1) := by decide +kernel
theorem dX11_readPart_41 : decode cX11_readPart 41 = .ok (.ireturn, 1) := by decide +kernel
theorem dX11_readPart_42 : decode cX11_readPart 42 = .ok (.aload_n 0, 1) := by decide +kernel
theorem dX11_readPart_43 : decode cX11_readPart 43 = .ok (.getfield 85, 3) := by decide +kernel
theorem dX11_readPart_46 : decode cX11_readPart 46 = .ok (.istore_n 3, 1) := by decide +kernel
theorem dX11_readPart_47 : decode cX11_readPart 47 = .ok (.iconst 0, 1) := by decide +kernel
theorem dX11_readPart_48 : decode cX11_readPart 48 = .ok (.istore 4, 2) := by decide +kernel
theorem dX11_readPart_50 : decode cX11_readPart 50 = .ok (.aload_n 0, 1) := by decide +kernel
theorem dX11_readPart_51 : decode cX11_readPart 51 = .ok (.invokevirtual 119, 3) := by decide +kernel
theorem dX11_readPart_54 : decode cX11_readPart 54 = .ok (.iload_n 2, 1) := by decide +kernel
theorem dX11_readPart_55 : decode cX11_readPart 55 = .ok (.iconst 2, 1) := by decide +kernel
theorem dX11_readPart_56 : decode cX11_readPart 56 = .ok (.if_icmp .eq 26, 3) := by decide +kernel
theorem dX11_readPart_59 : decode cX11_readPart 59 = .ok (.aload_n 0, 1) := by decide +kernel
theorem dX11_readPart_60 : decode cX11_readPart 60 = .ok (.bipush 8, 2) := by decide +kernel
theorem dX11_readPart_62 : decode cX11_readPart 62 = .ok (.bipush 100, 2) := by decide +kernel
theorem dX11_readPart_64 : decode cX11_readPart 64 = .ok (.invokevirtual 168, 3) := by decide +kernel
theorem dX11_readPart_67 : decode cX11_readPart 67 = .ok (.ifCond .ne 5, 3) := by decide +kernel
theorem dX11_readPart_70 : decode cX11_readPart 70 = .ok (.iconst 0, 1) := by decide +kernel
theorem dX11_readPart_71 : decode cX11_readPart 71 = .ok (.ireturn, 1) := by decide +kernel
theorem dX11_readPart_72 : decode cX11_readPart 72 = .ok (.aload_n 0, 1) := by decide +kernel
theorem dX11_readPart_73 : decode cX11_readPart 73 = .ok (.getfield 85, 3) := by decide +kernel
theorem dX11_readPart_76 : decode cX11_readPart 76 = .ok (.istore 4, 2) := by decide +kernel
theorem dX11_readPart_78 : decode cX11_readPart 78 = .ok (.aload_n 0, 1) := by decide +kernel
theorem dX11_readPart_79 : decode cX11_readPart 79 = .ok (.invokevirtual 119, 3) := by decide +kernel
theorem dX11_readPart_82 : decode cX11_readPart 82 = .ok (.aload_n 0, 1) := by decide +kernel
theorem dX11_readPart_83 : decode cX11_readPart 83 = .ok (.iload_n 1, 1) := by decide +kernel
theorem dX11_readPart_84 : decode cX11_readPart 84 = .ok (.iload_n 2, 1) := by decide +kernel
theorem dX11_readPart_85 : decode cX11_readPart 85 = .ok (.iload_n 3, 1) := by decide +kernel
theorem dX11_readPart_86 : decode cX11_readPart 86 = .ok (.iload 4, 2) := by decide +kernel
theorem dX11_readPart_88 : decode cX11_readPart 88 = .ok (.invokevirtual 204, 3) := by decide +kernel
theorem dX11_readPart_91 : decode cX11_readPart 91 = .ok (.iconst 1, 1) := by decide +kernel
theorem dX11_readPart_92 : decode cX11_readPart 92 = .ok (.ireturn, 1) := by decide +kernel
theorem dX11_readTrain_0 : decode cX11_readTrain 0 = .ok (.aload_n 0, 1) := by decide +kernel
theorem dX11_readTrain_1 : decode cX11_readTrain 1 = .ok (.invokevirtual 119, 3) := by decide +kernel
theorem dX11_readTrain_4 : decode cX11_readTrain 4 = .ok (.aload_n 0, 1) := by decide +kernel
theorem dX11_readTrain_5 : decode cX11_readTrain 5 = .ok (.invokevirtual 182, 3) := by decide +kernel
theorem dX11_readTrain_8 : decode cX11_readTrain 8 = .ok (.istore_n 1, 1) := by decide +kernel
theorem dX11_readTrain_9 : decode cX11_readTrain 9 = .ok (.iload_n 1, 1) := by decide +kernel
theorem dX11_readTrain_10 : decode cX11_readTrain 10 = .ok (.iconst (-1), 1) := by decide +kernel
theorem dX11_readTrain_11 : decode cX11_readTrain 11 = .ok (.if_icmp .ne 5, 3) := by decide +kernel
theorem dX11_readTrain_14 : decode cX11_readTrain 14 = .ok (.iconst 0, 1) := by decide +kernel
theorem dX11_readTrain_15 : decode cX11_readTrain 15 = .ok (.ireturn, 1) := by decide +kernel
theorem dX11_readTrain_16 : decode cX11_readTrain 16 = .ok (.aload_n 0, 1) := by decide +kernel
theorem dX11_readTrain_17 : decode cX11_readTrain 17 = .ok (.iload_n 1, 1) := by decide +kernel
theorem dX11_readTrain_18 : decode cX11_readTrain 18 = .ok (.invokevirtual 188, 3) := by decide +kernel
theorem dX11_readTrain_21 : decode cX11_readTrain 21 = .ok (.ifCond .le 9, 3) := by decide +kernel
theorem dX11_readTrain_24 : decode cX11_readTrain 24 = .ok (.aload_n 0, 1) := by decide +kernel
theorem dX11_readTrain_25 : decode cX11_readTrain 25 = .ok (.iconst 4, 1) := by decide +kernel
theorem dX11_readTrain_26 : decode cX11_readTrain 26 = .ok (.invokevirtual 122, 3) := by decide +kernel
theorem dX11_readTrain_29 : decode cX11_readTrain 29 = .ok (.ireturn, 1) := by decide +kernel
theorem dX11_readTrain_30 : decode cX11_readTrain 30 = .ok (.aload_n 0, 1) := by decide +kernel
theorem dX11_readTrain_31 : decode cX11_readTrain 31 = .ok (.invokevirtual 119, 3) := by decide +kernel
theorem dX11_readTrain_34 : decode cX11_readTrain 34 = .ok (.aload_n 0, 1) := by decide +kernel
theorem dX11_readTrain_35 : decode cX11_readTrain 35 = .ok (.iload_n 1, 1) := by decide +kernel
theorem dX11_readTrain_36 : decode cX11_readTrain 36 = .ok (.invokevirtual 208, 3) := by decide +kernel
theorem dX11_readTrain_39 : decode cX11_readTrain 39 = .ok (.ifCond .ne 5, 3) := by decide +kernel
theorem dX11_readTrain_42 : decode cX11_readTrain 42 = .ok (.iconst 0, 1) := by decide +kernel
theorem dX11_readTrain_43 : decode cX11_readTrain 43 = .ok (.ireturn, 1) := by decide +kernel
theorem dX11_readTrain_44 : decode cX11_readTrain 44 = .ok (.aload_n 0, 1) := by decide +kernel
theorem dX11_readTrain_45 : decode cX11_readTrain 45 = .ok (.getfield 88, 3) := by decide +kernel
theorem dX11_readTrain_48 : decode cX11_readTrain 48 = .ok (.iconst 3, 1) := by decide +kernel
theorem dX11_readTrain_49 : decode cX11_readTrain 49 = .ok (.if_icmp .ne (-15), 3) := by decide +kernel
theorem dX11_readTrain_52 : decode cX11_readTrain 52 = .ok (.iconst 1, 1) := by decide +kernel
theorem dX11_readTrain_53 : decode cX11_readTrain 53 = .ok (.ireturn, 1) := by decide +kernel
theorem dX11_readStatement_0 : decode cX11_readStatement 0 = .ok (.aload_n 0, 1) := by decide +kernel
theorem dX11_readStatement_1 : decode cX11_readStatement 1 = .ok (.ldc 126, 2) := by decide +kernel
theorem dX11_readStatement_3 : decode cX11_readStatement 3 = .ok (.invokevirtual 115, 3) := by decide +kernel
theorem dX11_readStatement_6 : decode cX11_readStatement 6 = .ok (.ifCond .eq 8, 3) := by decide +kernel
theorem dX11_readStatement_9 : decode cX11_readStatement 9 = .ok (.aload_n 0, 1) := by decide +kernel
theorem dX11_readStatement_10 : decode cX11_readStatement 10 = .ok (.invokevirtual 211, 3) := by decide +kernel
theorem dX11_readStatement_13 : decode cX11_readStatement 13 = .ok (.ireturn, 1) := by decide +kernel
theorem dX11_readStatement_14 : decode cX11_readStatement 14 = .ok (.aload_n 0, 1) := by decide +kernel
theorem dX11_readStatement_15 : decode cX11_readStatement 15 = .ok (.ldc 128, 2) := by decide +kernel
theorem dX11_readStatement_17 : decode cX11_readStatement 17 = .ok (.invokevirtual 115, 3) := by decide +kernel
theorem dX11_readStatement_20 : decode cX11_readStatement 20 = .ok (.ifCond .eq 8, 3) := by decide +kernel
theorem dX11_readStatement_23 : decode cX11_readStatement 23 = .ok (.aload_n 0, 1) := by decide +kernel
theorem dX11_readStatement_24 : decode cX11_readStatement 24 = .ok (.invokevirtual 214, 3) := by decide +kernel
theorem dX11_readStatement_27 : decode cX11_readStatement 27 = .ok (.ireturn, 1) := by decide +kernel
theorem dX11_readStatement_28 : decode cX11_readStatement 28 = .ok (.aload_n 0, 1) := by decide +kernel
theorem dX11_readStatement_29 : decode cX11_readStatement 29 = .ok (.ldc 130, 2) := by decide +kernel
theorem dX11_readStatement_31 : decode cX11_readStatement 31 = .ok (.invokevirtual 115, 3) := by decide +kernel
theorem dX11_readStatement_34 : decode cX11_readStatement 34 = .ok (.ifCond .eq 8, 3) := by decide +kernel
theorem dX11_readStatement_37 : decode cX11_readStatement 37 = .ok (.aload_n 0, 1) := by decide +kernel
theorem dX11_readStatement_38 : decode cX11_readStatement 38 = .ok (.invokevirtual 217, 3) := by decide +kernel
theorem dX11_readStatement_41 : decode cX11_readStatement 41 = .ok (.ireturn, 1) := by decide +kernel
theorem dX11_readStatement_42 : decode cX11_readStatement 42 = .ok (.aload_n 0, 1) := by decide +kernel
theorem dX11_readStatement_43 : decode cX11_readStatement 43 = .ok (.ldc 132, 2) := by decide +kernel
theorem dX11_readStatement_45 : decode cX11_readStatement 45 = .ok (.invokevirtual 115, 3) := by decide +kernel
theorem dX11_readStatement_48 : decode cX11_readStatement 48 = .ok (.ifCond .eq 8, 3) := by decide +kernel
theorem dX11_readStatement_51 : decode cX11_readStatement 51 = .ok (.aload_n 0, 1) := by decide +kernel
theorem dX11_readStatement_52 : decode cX11_readStatement 52 = .ok (.invokevirtual 220, 3) := by decide +kernel
theorem dX11_readStatement_55 : decode cX11_readStatement 55 = .ok (.ireturn, 1) := by decide +kernel
theorem dX11_readStatement_56 : decode cX11_readStatement 56 = .ok (.aload_n 0, 1) := by decide +kernel
theorem dX11_readStatement_57 : decode cX11_readStatement 57 = .ok (.ldc 140, 2) := by decide +kernel
theorem dX11_readStatement_59 : decode cX11_readStatement 59 = .ok (.invokevirtual 115, 3) := by decide +kernel
theorem dX11_readStatement_62 : decode cX11_readStatement 62 = .ok (.ifCond .eq 10, 3) := by decide +kernel
theorem dX11_readStatement_65 : decode cX11_readStatement 65 = .ok (.aload_n 0, 1) := by decide +kernel
theorem dX11_readStatement_66 : decode cX11_readStatement 66 = .ok (.invokevirtual 223, 3) := by decide +kernel
theorem dX11_readStatement_69 : decode cX11_readStatement 69 = .ok (.goto 8, 3) := by decide +kernel
theorem dX11_readStatement_72 : decode cX11_readStatement 72 = .ok (.aload_n 0, 1) := by decide +kernel
theorem dX11_readStatement_73 : decode cX11_readStatement 73 = .ok (.iconst 1, 1) := by decide +kernel
theorem dX11_readStatement_74 : decode cX11_readStatement 74 = .ok (.invokevirtual 122, 3) := by decide +kernel
theorem dX11_readStatement_77 : decode cX11_readStatement 77 = .ok (.ireturn, 1) := by decide +kernel
theorem dX11_readDrive_0 : decode cX11_readDrive 0 = .ok (.aload_n 0, 1) := by decide +kernel
theorem dX11_readDrive_1 : decode cX11_readDrive 1 = .ok (.getfield 88, 3) := by decide +kernel
theorem dX11_readDrive_4 : decode cX11_readDrive 4 = .ok (.ifCond .eq 33, 3) := by decide +kernel
theorem dX11_readDrive_7 : decode cX11_readDrive 7 = .ok (.aload_n 0, 1) := by decide +kernel
theorem dX11_readDrive_8 : decode cX11_readDrive 8 = .ok (.invokevirtual 226, 3) := by decide +kernel
theorem dX11_readDrive_11 : decode cX11_readDrive 11 = .ok (.ifCond .ne 5, 3) := by decide +kernel
theorem dX11_readDrive_14 : decode cX11_readDrive 14 = .ok (.iconst 0, 1) := by decide +kernel
theorem dX11_readDrive_15 : decode cX11_readDrive 15 = .ok (.ireturn, 1) := by decide +kernel
theorem dX11_readDrive_16 : decode cX11_readDrive 16 = .ok (.aload_n 0, 1) := by decide +kernel
theorem dX11_readDrive_17 : decode cX11_readDrive 17 = .ok (.getfield 88, 3) := by decide +kernel
theorem dX11_readDrive_20 : decode cX11_readDrive 20 = .ok (.iconst 3, 1) := by decide +kernel
theorem dX11_readDrive_21 : decode cX11_readDrive 21 = .ok (.if_icmp .eq 9, 3) := by decide +kernel
theorem dX11_readDrive_24 : decode cX11_readDrive 24 = .ok (.aload_n 0, 1) := by decide +kernel
theorem dX11_readDrive_25 : decode cX11_readDrive 25 = .ok (.iconst 1, 1) := by decide +kernel
theorem dX11_readDrive_26 : decode cX11_readDrive 26 = .ok (.invokevirtual 122, 3) := by decide +kernel
theorem dX11_readDrive_29 : decode cX11_readDrive 29 = .ok (.ireturn, 1) := by decide +kernel
theorem dX11_readDrive_30 : decode cX11_readDrive 30 = .ok (.aload_n 0, 1) := by decide +kernel
theorem dX11_readDrive_31 : decode cX11_readDrive 31 = .ok (.invokevirtual 119, 3) := by decide +kernel
theorem dX11_readDrive_34 : decode cX11_readDrive 34 = .ok (.goto (-34), 3) := by decide +kernel
theorem dX11_readDrive_37 : decode cX11_readDrive 37 = .ok (.iconst 1, 1) := by decide +kernel
theorem dX11_readDrive_38 : decode cX11_readDrive 38 = .ok (.ireturn, 1) := by decide +kernel
theorem dX11_loadDrive_0 : decode cX11_loadDrive 0 = .ok (.aload_n 0, 1) := by decide +kernel
theorem dX11_loadDrive_1 : decode cX11_loadDrive 1 = .ok (.iconst 0, 1) := by decide +kernel
theorem dX11_loadDrive_2 : decode cX11_loadDrive 2 = .ok (.putfield 50, 3) := by decide +kernel
theorem dX11_loadDrive_5 : decode cX11_loadDrive 5 = .ok (.aload_n 0, 1) := by decide +kernel
theorem dX11_loadDrive_6 : decode cX11_loadDrive 6 = .ok (.getfield 7, 3) := by decide +kernel
theorem dX11_loadDrive_9 : decode cX11_loadDrive 9 = .ok (.iconst 0, 1) := by decide +kernel
theorem dX11_loadDrive_10 : decode cX11_loadDrive 10 = .ok (.aload_n 0, 1) := by decide +kernel
theorem dX11_loadDrive_11 : decode cX11_loadDrive 11 = .ok (.getfield 13, 3) := by decide +kernel
theorem dX11_loadDrive_14 : decode cX11_loadDrive 14 = .ok (.iconst 0, 1) := by decide +kernel
theorem dX11_loadDrive_15 : decode cX11_loadDrive 15 = .ok (.bipush 26, 2) := by decide +kernel
theorem dX11_loadDrive_17 : decode cX11_loadDrive 17 = .ok (.invokestatic 60, 3) := by decide +kernel
theorem dX11_loadDrive_20 : decode cX11_loadDrive 20 = .ok (.aload_n 0, 1) := by decide +kernel
theorem dX11_loadDrive_21 : decode cX11_loadDrive 21 = .ok (.getfield 22, 3) := by decide +kernel
theorem dX11_loadDrive_24 : decode cX11_loadDrive 24 = .ok (.iconst 0, 1) := by decide +kernel
theorem dX11_loadDrive_25 : decode cX11_loadDrive 25 = .ok (.aload_n 0, 1) := by decide +kernel
theorem dX11_loadDrive_26 : decode cX11_loadDrive 26 = .ok (.getfield 25, 3) := by decide +kernel
theorem dX11_loadDrive_29 : decode cX11_loadDrive 29 = .ok (.iconst 0, 1) := by decide +kernel
theorem dX11_loadDrive_30 : decode cX11_loadDrive 30 = .ok (.sipush 131, 3) := by decide +kernel
theorem dX11_loadDrive_33 : decode cX11_loadDrive 33 = .ok (.invokestatic 60, 3) := by decide +kernel
theorem dX11_loadDrive_36 : decode cX11_loadDrive 36 = .ok (.aload_n 0, 1) := by decide +kernel
theorem dX11_loadDrive_37 : decode cX11_loadDrive 37 = .ok (.getfield 16, 3) := by decide +kernel
theorem dX11_loadDrive_40 : decode cX11_loadDrive 40 = .ok (.iconst 0, 1) := by decide +kernel
theorem dX11_loadDrive_41 : decode cX11_loadDrive 41 = .ok (.aload_n 0, 1) := by decide +kernel
theorem dX11_loadDrive_42 : decode cX11_loadDrive 42 = .ok (.getfield 19, 3) := by decide +kernel
theorem dX11_loadDrive_45 : decode cX11_loadDrive 45 = .ok (.iconst 0, 1) := by decide +kernel
theorem dX11_loadDrive_46 : decode cX11_loadDrive 46 = .ok (.bipush 64, 2) := by decide +kernel
theorem dX11_loadDrive_48 : decode cX11_loadDrive 48 = .ok (.invokestatic 60, 3) := by decide +kernel
theorem dX11_loadDrive_51 : decode cX11_loadDrive 51 = .ok (.aload_n 0, 1) := by decide +kernel
theorem dX11_loadDrive_52 : decode cX11_loadDrive 52 = .ok (.invokevirtual 47, 3) := by decide +kernel
theorem dX11_loadDrive_55 : decode cX11_loadDrive 55 = .ok (.aload_n 0, 1) := by decide +kernel
theorem dX11_loadDrive_56 : decode cX11_loadDrive 56 = .ok (.iconst 0, 1) := by decide +kernel
theorem dX11_loadDrive_57 : decode cX11_loadDrive 57 = .ok (.putfield 99, 3) := by decide +kernel
theorem dX11_loadDrive_60 : decode cX11_loadDrive 60 = .ok (.aload_n 0, 1) := by decide +kernel
theorem dX11_loadDrive_61 : decode cX11_loadDrive 61 = .ok (.iconst (-1), 1) := by decide +kernel
theorem dX11_loadDrive_62 : decode cX11_loadDrive 62 = .ok (.putfield 102, 3) := by decide +kernel
theorem dX11_loadDrive_65 : decode cX11_loadDrive 65 = .ok (.aload_n 0, 1) := by decide +kernel
theorem dX11_loadDrive_66 : decode cX11_loadDrive 66 = .ok (.iconst 0, 1) := by decide +kernel
theorem dX11_loadDrive_67 : decode cX11_loadDrive 67 = .ok (.putfield 75, 3) := by decide +kernel
theorem dX11_loadDrive_70 : decode cX11_loadDrive 70 = .ok (.aload_n 0, 1) := by decide +kernel
theorem dX11_loadDrive_71 : decode cX11_loadDrive 71 = .ok (.iconst 0, 1) := by decide +kernel
theorem dX11_loadDrive_72 : decode cX11_loadDrive 72 = .ok (.putfield 158, 3) := by decide +kernel
theorem dX11_loadDrive_75 : decode cX11_loadDrive 75 = .ok (.aload_n 0, 1) := by decide +kernel
theorem dX11_loadDrive_76 : decode cX11_loadDrive 76 = .ok (.invokevirtual 119, 3) := by decide +kernel
theorem dX11_loadDrive_79 : decode cX11_loadDrive 79 = .ok (.aload_n 0, 1) := by decide +kernel
theorem dX11_loadDrive_80 : decode cX11_loadDrive 80 = .ok (.invokevirtual 229, 3) := by decide +kernel
theorem dX11_loadDrive_83 : decode cX11_loadDrive 83 = .ok (.istore_n 1, 1) := by decide +kernel
theorem dX11_loadDrive_84 : decode cX11_loadDrive 84 = .ok (.aload_n 0, 1) := by decide +kernel
theorem dX11_loadDrive_85 : decode cX11_loadDrive 85 = .ok (.iconst 0, 1) := by decide +kernel
theorem dX11_loadDrive_86 : decode cX11_loadDrive 86 = .ok (.putfield 64, 3) := by decide +kernel
theorem dX11_loadDrive_89 : decode cX11_loadDrive 89 = .ok (.aload_n 0, 1) := by decide +kernel
theorem dX11_loadDrive_90 : decode cX11_loadDrive 90 = .ok (.aload_n 0, 1) := by decide +kernel
theorem dX11_loadDrive_91 : decode cX11_loadDrive 91 = .ok (.getfield 99, 3) := by decide +kernel
theorem dX11_loadDrive_94 : decode cX11_loadDrive 94 = .ok (.putfield 232, 3) := by decide +kernel
theorem dX11_loadDrive_97 : decode cX11_loadDrive 97 = .ok (.aload_n 0, 1) := by decide +kernel
theorem dX11_loadDrive_98 : decode cX11_loadDrive 98 = .ok (.aload_n 0, 1) := by decide +kernel
theorem dX11_loadDrive_99 : decode cX11_loadDrive 99 = .ok (.getfield 102, 3) := by decide +kernel
theorem dX11_loadDrive_102 : decode cX11_loadDrive 102 = .ok (.putfield 37, 3) := by decide +kernel
theorem dX11_loadDrive_105 : decode cX11_loadDrive 105 = .ok (.iload_n 1, 1) := by decide +kernel
theorem dX11_loadDrive_106 : decode cX11_loadDrive 106 = .ok (.ifCond .ne 51, 3) := by decide +kernel
theorem dX11_loadDrive_109 : decode cX11_loadDrive 109 = .ok (.aload_n 0, 1) := by decide +kernel
theorem dX11_loadDrive_110 : decode cX11_loadDrive 110 = .ok (.getfield 13, 3) := by decide +kernel
theorem dX11_loadDrive_113 : decode cX11_loadDrive 113 = .ok (.iconst 0, 1) := by decide +kernel
theorem dX11_loadDrive_114 : decode cX11_loadDrive 114 = .ok (.aload_n 0, 1) := by decide +kernel
theorem dX11_loadDrive_115 : decode cX11_loadDrive 115 = .ok (.getfield 7, 3) := by decide +kernel
theorem dX11_loadDrive_118 : decode cX11_loadDrive 118 = .ok (.iconst 0, 1) := by decide +kernel
theorem dX11_loadDrive_119 : decode cX11_loadDrive 119 = .ok (.bipush 26, 2) := by decide +kernel
theorem dX11_loadDrive_121 : decode cX11_loadDrive 121 = .ok (.invokestatic 60, 3) := by decide +kernel
theorem dX11_loadDrive_124 : decode cX11_loadDrive 124 = .ok (.aload_n 0, 1) := by decide +kernel
theorem dX11_loadDrive_125 : decode cX11_loadDrive 125 = .ok (.getfield 25, 3) := by decide +kernel
theorem dX11_loadDrive_128 : decode cX11_loadDrive 128 = .ok (.iconst 0, 1) := by decide +kernel
theorem dX11_loadDrive_129 : decode cX11_loadDrive 129 = .ok (.aload_n 0, 1) := by decide +kernel
theorem dX11_loadDrive_130 : decode cX11_loadDrive 130 = .ok (.getfield 22, 3) := by decide +kernel
theorem dX11_loadDrive_133 : decode cX11_loadDrive 133 = .ok (.iconst 0, 1) := by decide +kernel
theorem dX11_loadDrive_134 : decode cX11_loadDrive 134 = .ok (.sipush 131, 3) := by decide +kernel
theorem dX11_loadDrive_137 : decode cX11_loadDrive 137 = .ok (.invokestatic 60, 3) := by decide +kernel
theorem dX11_loadDrive_140 : decode cX11_loadDrive 140 = .ok (.aload_n 0, 1) := by decide +kernel
theorem dX11_loadDrive_141 : decode cX11_loadDrive 141 = .ok (.getfield 19, 3) := by decide +kernel
theorem dX11_loadDrive_144 : decode cX11_loadDrive 144 = .ok (.iconst 0, 1) := by decide +kernel
theorem dX11_loadDrive_145 : decode cX11_loadDrive 145 = .ok (.aload_n 0, 1) := by decide +kernel
theorem dX11_loadDrive_146 : decode cX11_loadDrive 146 = .ok (.getfield 16, 3) := by decide +kernel
theorem dX11_loadDrive_149 : decode cX11_loadDrive 149 = .ok (.iconst 0, 1) := by decide +kernel
theorem dX11_loadDrive_150 : decode cX11_loadDrive 150 = .ok (.bipush 64, 2) := by decide +kernel
theorem dX11_loadDrive_152 : decode cX11_loadDrive 152 = .ok (.invokestatic 60, 3) := by decide +kernel
theorem dX11_loadDrive_155 : decode cX11_loadDrive 155 = .ok (.iconst (-1), 1) := by decide +kernel
theorem dX11_loadDrive_156 : decode cX11_loadDrive 156 = .ok (.ireturn, 1) := by decide +kernel
theorem dX11_loadDrive_157 : decode cX11_loadDrive 157 = .ok (.aload_n 0, 1) := by decide +kernel
theorem dX11_loadDrive_158 : decode cX11_loadDrive 158 = .ok (.iconst 0, 1) := by decide +kernel
theorem dX11_loadDrive_159 : decode cX11_loadDrive 159 = .ok (.putfield 235, 3) := by decide +kernel
theorem dX11_loadDrive_162 : decode cX11_loadDrive 162 = .ok (.aload_n 0, 1) := by decide +kernel
theorem dX11_loadDrive_163 : decode cX11_loadDrive 163 = .ok (.iconst 0, 1) := by decide +kernel
theorem dX11_loadDrive_164 : decode cX11_loadDrive 164 = .ok (.putfield 57, 3) := by decide +kernel
theorem dX11_loadDrive_167 : decode cX11_loadDrive 167 = .ok (.aload_n 0, 1) := by decide +kernel
theorem dX11_loadDrive_168 : decode cX11_loadDrive 168 = .ok (.getfield 7, 3) := by decide +kernel
theorem dX11_loadDrive_171 : decode cX11_loadDrive 171 = .ok (.iconst 0, 1) := by decide +kernel
theorem dX11_loadDrive_172 : decode cX11_loadDrive 172 = .ok (.iaload, 1) := by decide +kernel
theorem dX11_loadDrive_173 : decode cX11_loadDrive 173 = .ok (.ireturn, 1) := by decide +kernel
theorem dX11_errorCode_0 : decode cX11_errorCode 0 = .ok (.aload_n 0, 1) := by decide +kernel
theorem dX11_errorCode_1 : decode cX11_errorCode 1 = .ok (.iconst 0, 1) := by decide +kernel
theorem dX11_errorCode_2 : decode cX11_errorCode 2 = .ok (.putfield 50, 3) := by decide +kernel
theorem dX11_errorCode_5 : decode cX11_errorCode 5 = .ok (.aload_n 0, 1) := by decide +kernel
theorem dX11_errorCode_6 : decode cX11_errorCode 6 = .ok (.getfield 232, 3) := by decide +kernel
theorem dX11_errorCode_9 : decode cX11_errorCode 9 = .ok (.ireturn, 1) := by decide +kernel
theorem dX11_errorOffset_0 : decode cX11_errorOffset 0 = .ok (.aload_n 0, 1) := by decide +kernel
theorem dX11_errorOffset_1 : decode cX11_errorOffset 1 = .ok (.iconst 0, 1) := by decide +kernel
theorem dX11_errorOffset_2 : decode cX11_errorOffset 2 = .ok (.putfield 50, 3) := by decide +kernel
theorem dX11_errorOffset_5 : decode cX11_errorOffset 5 = .ok (.aload_n 0, 1) := by decide +kernel
theorem dX11_errorOffset_6 : decode cX11_errorOffset 6 = .ok (.getfield 37, 3) := by decide +kernel
theorem dX11_errorOffset_9 : decode cX11_errorOffset 9 = .ok (.ireturn, 1) := by decide +kernel
theorem dX11_divisor_0 : decode cX11_divisor 0 = .ok (.lload_n 0, 1) := by decide +kernel
theorem dX11_divisor_1 : decode cX11_divisor 1 = .ok (.invokestatic 239, 3) := by decide +kernel
theorem dX11_divisor_4 : decode cX11_divisor 4 = .ok (.lstore 4, 2) := by decide +kernel
theorem dX11_divisor_6 : decode cX11_divisor 6 = .ok (.lload_n 2, 1) := by decide +kernel
theorem dX11_divisor_7 : decode cX11_divisor 7 = .ok (.invokestatic 239, 3) := by decide +kernel
theorem dX11_divisor_10 : decode cX11_divisor 10 = .ok (.lstore 6, 2) := by decide +kernel
theorem dX11_divisor_12 : decode cX11_divisor 12 = .ok (.lload 6, 2) := by decide +kernel
theorem dX11_divisor_14 : decode cX11_divisor 14 = .ok (.lconst 0, 1) := by decide +kernel
theorem dX11_divisor_15 : decode cX11_divisor 15 = .ok (.lcmp, 1) := by decide +kernel
theorem dX11_divisor_16 : decode cX11_divisor 16 = .ok (.ifCond .eq 21, 3) := by decide +kernel
theorem dX11_divisor_19 : decode cX11_divisor 19 = .ok (.lload 4, 2) := by decide +kernel
theorem dX11_divisor_21 : decode cX11_divisor 21 = .ok (.lload 6, 2) := by decide +kernel
theorem dX11_divisor_23 : decode cX11_divisor 23 = .ok (.lrem, 1) := by decide +kernel
theorem dX11_divisor_24 : decode cX11_divisor 24 = .ok (.lstore 8, 2) := by decide +kernel
theorem dX11_divisor_26 : decode cX11_divisor 26 = .ok (.lload 6, 2) := by decide +kernel
theorem dX11_divisor_28 : decode cX11_divisor 28 = .ok (.lstore 4, 2) := by decide +kernel
theorem dX11_divisor_30 : decode cX11_divisor 30 = .ok (.lload 8, 2) := by decide +kernel
theorem dX11_divisor_32 : decode cX11_divisor 32 = .ok (.lstore 6, 2) := by decide +kernel
theorem dX11_divisor_34 : decode cX11_divisor 34 = .ok (.goto (-22), 3) := by decide +kernel
theorem dX11_divisor_37 : decode cX11_divisor 37 = .ok (.lload 4, 2) := by decide +kernel
theorem dX11_divisor_39 : decode cX11_divisor 39 = .ok (.lreturn, 1) := by decide +kernel
theorem dX11_fraction_0 : decode cX11_fraction 0 = .ok (.lload_n 1, 1) := by decide +kernel
theorem dX11_fraction_1 : decode cX11_fraction 1 = .ok (.lload_n 3, 1) := by decide +kernel
theorem dX11_fraction_2 : decode cX11_fraction 2 = .ok (.invokestatic 245, 3) := by decide +kernel
theorem dX11_fraction_5 : decode cX11_fraction 5 = .ok (.lstore 5, 2) := by decide +kernel
theorem dX11_fraction_7 : decode cX11_fraction 7 = .ok (.aload_n 0, 1) := by decide +kernel
theorem dX11_fraction_8 : decode cX11_fraction 8 = .ok (.lload_n 1, 1) := by decide +kernel
theorem dX11_fraction_9 : decode cX11_fraction 9 = .ok (.lload 5, 2) := by decide +kernel
theorem dX11_fraction_11 : decode cX11_fraction 11 = .ok (.ldiv, 1) := by decide +kernel
theorem dX11_fraction_12 : decode cX11_fraction 12 = .ok (.putfield 249, 3) := by decide +kernel
theorem dX11_fraction_15 : decode cX11_fraction 15 = .ok (.aload_n 0, 1) := by decide +kernel
theorem dX11_fraction_16 : decode cX11_fraction 16 = .ok (.lload_n 3, 1) := by decide +kernel
theorem dX11_fraction_17 : decode cX11_fraction 17 = .ok (.lload 5, 2) := by decide +kernel
theorem dX11_fraction_19 : decode cX11_fraction 19 = .ok (.ldiv, 1) := by decide +kernel
theorem dX11_fraction_20 : decode cX11_fraction 20 = .ok (.putfield 253, 3) := by decide +kernel
theorem dX11_fraction_23 : decode cX11_fraction 23 = .ok (.return_, 1) := by decide +kernel
theorem dX11_scaled_0 : decode cX11_scaled 0 = .ok (.lload_n 3, 1) := by decide +kernel
theorem dX11_scaled_1 : decode cX11_scaled 1 = .ok (.lload 5, 2) := by decide +kernel
theorem dX11_scaled_3 : decode cX11_scaled 3 = .ok (.ldiv, 1) := by decide +kernel
theorem dX11_scaled_4 : decode cX11_scaled 4 = .ok (.lstore 7, 2) := by decide +kernel
theorem dX11_scaled_6 : decode cX11_scaled 6 = .ok (.lload_n 3, 1) := by decide +kernel
theorem dX11_scaled_7 : decode cX11_scaled 7 = .ok (.lload 5, 2) := by decide +kernel
theorem dX11_scaled_9 : decode cX11_scaled 9 = .ok (.lrem, 1) := by decide +kernel
theorem dX11_scaled_10 : decode cX11_scaled 10 = .ok (.lstore 9, 2) := by decide +kernel
theorem dX11_scaled_12 : decode cX11_scaled 12 = .ok (.lconst 0, 1) := by decide +kernel
theorem dX11_scaled_13 : decode cX11_scaled 13 = .ok (.lstore 11, 2) := by decide +kernel
theorem dX11_scaled_15 : decode cX11_scaled 15 = .ok (.lconst 0, 1) := by decide +kernel
theorem dX11_scaled_16 : decode cX11_scaled 16 = .ok (.lstore 13, 2) := by decide +kernel
theorem dX11_scaled_18 : decode cX11_scaled 18 = .ok (.bipush 45, 2) := by decide +kernel
theorem dX11_scaled_20 : decode cX11_scaled 20 = .ok (.istore 15, 2) := by decide +kernel
theorem dX11_scaled_22 : decode cX11_scaled 22 = .ok (.iload 15, 2) := by decide +kernel
theorem dX11_scaled_24 : decode cX11_scaled 24 = .ok (.ifCond .lt 88, 3) := by decide +kernel
theorem dX11_scaled_27 : decode cX11_scaled 27 = .ok (.lload 11, 2) := by decide +kernel
theorem dX11_scaled_29 : decode cX11_scaled 29 = .ok (.ldc2_w 256, 3) := by decide +kernel
theorem dX11_scaled_32 : decode cX11_scaled 32 = .ok (.lmul, 1) := by decide +kernel
theorem dX11_scaled_33 : decode cX11_scaled 33 = .ok (.lstore 11, 2) := by decide +kernel
theorem dX11_scaled_35 : decode cX11_scaled 35 = .ok (.lload 13, 2) := by decide +kernel
theorem dX11_scaled_37 : decode cX11_scaled 37 = .ok (.ldc2_w 256, 3) := by decide +kernel
theorem dX11_scaled_40 : decode cX11_scaled 40 = .ok (.lmul, 1) := by decide +kernel
theorem dX11_scaled_41 : decode cX11_scaled 41 = .ok (.lstore 13, 2) := by decide +kernel
theorem dX11_scaled_43 : decode cX11_scaled 43 = .ok (.lload 13, 2) := by decide +kernel
theorem dX11_scaled_45 : decode cX11_scaled 45 = .ok (.lload 5, 2) := by decide +kernel
theorem dX11_scaled_47 : decode cX11_scaled 47 = .ok (.lcmp, 1) := by decide +kernel
theorem dX11_scaled_48 : decode cX11_scaled 48 = .ok (.ifCond .lt 16, 3) := by decide +kernel
theorem dX11_scaled_51 : decode cX11_scaled 51 = .ok (.lload 13, 2) := by decide +kernel
theorem dX11_scaled_53 : decode cX11_scaled 53 = .ok (.lload 5, 2) := by decide +kernel
theorem dX11_scaled_55 : decode cX11_scaled 55 = .ok (.lsub, 1) := by decide +kernel
theorem dX11_scaled_56 : decode cX11_scaled 56 = .ok (.lstore 13, 2) := by decide +kernel
theorem dX11_scaled_58 : decode cX11_scaled 58 = .ok (.lload 11, 2) := by decide +kernel
theorem dX11_scaled_60 : decode cX11_scaled 60 = .ok (.lconst 1, 1) := by decide +kernel
theorem dX11_scaled_61 : decode cX11_scaled 61 = .ok (.ladd, 1) := by decide +kernel
theorem dX11_scaled_62 : decode cX11_scaled 62 = .ok (.lstore 11, 2) := by decide +kernel
theorem dX11_scaled_64 : decode cX11_scaled 64 = .ok (.lload_n 1, 1) := by decide +kernel
theorem dX11_scaled_65 : decode cX11_scaled 65 = .ok (.iload 15, 2) := by decide +kernel
theorem dX11_scaled_67 : decode cX11_scaled 67 = .ok (.lshr, 1) := by decide +kernel
theorem dX11_scaled_68 : decode cX11_scaled 68 = .ok (.lconst 1, 1) := by decide +kernel
theorem dX11_scaled_69 : decode cX11_scaled 69 = .ok (.land, 1) := by decide +kernel
theorem dX11_scaled_70 : decode cX11_scaled 70 = .ok (.lconst 0, 1) := by decide +kernel
theorem dX11_scaled_71 : decode cX11_scaled 71 = .ok (.lcmp, 1) := by decide +kernel
theorem dX11_scaled_72 : decode cX11_scaled 72 = .ok (.ifCond .ne 6, 3) := by decide +kernel
theorem dX11_scaled_75 : decode cX11_scaled 75 = .ok (.goto 31, 3) := by decide +kernel
theorem dX11_scaled_78 : decode cX11_scaled 78 = .ok (.lload 13, 2) := by decide +kernel
theorem dX11_scaled_80 : decode cX11_scaled 80 = .ok (.lload 9, 2) := by decide +kernel
theorem dX11_scaled_82 : decode cX11_scaled 82 = .ok (.ladd, 1) := by decide +kernel
theorem dX11_scaled_83 : decode cX11_scaled 83 = .ok (.lstore 13, 2) := by decide +kernel
theorem dX11_scaled_85 : decode cX11_scaled 85 = .ok (.lload 13, 2) := by decide +kernel
theorem dX11_scaled_87 : decode cX11_scaled 87 = .ok (.lload 5, 2) := by decide +kernel
theorem dX11_scaled_89 : decode cX11_scaled 89 = .ok (.lcmp, 1) := by decide +kernel
theorem dX11_scaled_90 : decode cX11_scaled 90 = .ok (.ifCond .lt 16, 3) := by decide +kernel
theorem dX11_scaled_93 : decode cX11_scaled 93 = .ok (.lload 13, 2) := by decide +kernel
theorem dX11_scaled_95 : decode cX11_scaled 95 = .ok (.lload 5, 2) := by decide +kernel
theorem dX11_scaled_97 : decode cX11_scaled 97 = .ok (.lsub, 1) := by decide +kernel
theorem dX11_scaled_98 : decode cX11_scaled 98 = .ok (.lstore 13, 2) := by decide +kernel
theorem dX11_scaled_100 : decode cX11_scaled 100 = .ok (.lload 11, 2) := by decide +kernel
theorem dX11_scaled_102 : decode cX11_scaled 102 = .ok (.lconst 1, 1) := by decide +kernel
theorem dX11_scaled_103 : decode cX11_scaled 103 = .ok (.ladd, 1) := by decide +kernel
theorem dX11_scaled_104 : decode cX11_scaled 104 = .ok (.lstore 11, 2) := by decide +kernel
theorem dX11_scaled_106 : decode cX11_scaled 106 = .ok (.iinc 15 (-1), 3) := by decide +kernel
theorem dX11_scaled_109 : decode cX11_scaled 109 = .ok (.goto (-87), 3) := by decide +kernel
theorem dX11_scaled_112 : decode cX11_scaled 112 = .ok (.aload_n 0, 1) := by decide +kernel
theorem dX11_scaled_113 : decode cX11_scaled 113 = .ok (.lload 13, 2) := by decide +kernel
theorem dX11_scaled_115 : decode cX11_scaled 115 = .ok (.lconst 0, 1) := by decide +kernel
theorem dX11_scaled_116 : decode cX11_scaled 116 = .ok (.lcmp, 1) := by decide +kernel
theorem dX11_scaled_117 : decode cX11_scaled 117 = .ok (.ifCond .eq 7, 3) := by decide +kernel
theorem dX11_scaled_120 : decode cX11_scaled 120 = .ok (.iconst 1, 1) := by decide +kernel
theorem dX11_scaled_121 : decode cX11_scaled 121 = .ok (.goto 4, 3) := by decide +kernel
theorem dX11_scaled_124 : decode cX11_scaled 124 = .ok (.iconst 0, 1) := by decide +kernel
theorem dX11_scaled_125 : decode cX11_scaled 125 = .ok (.putfield 258, 3) := by decide +kernel
theorem dX11_scaled_128 : decode cX11_scaled 128 = .ok (.lload 11, 2) := by decide +kernel
theorem dX11_scaled_130 : decode cX11_scaled 130 = .ok (.lload_n 1, 1) := by decide +kernel
theorem dX11_scaled_131 : decode cX11_scaled 131 = .ok (.lload 7, 2) := by decide +kernel
theorem dX11_scaled_133 : decode cX11_scaled 133 = .ok (.lmul, 1) := by decide +kernel
theorem dX11_scaled_134 : decode cX11_scaled 134 = .ok (.ladd, 1) := by decide +kernel
theorem dX11_scaled_135 : decode cX11_scaled 135 = .ok (.lreturn, 1) := by decide +kernel
theorem dX11_signOf_0 : decode cX11_signOf 0 = .ok (.iconst 0, 1) := by decide +kernel
theorem dX11_signOf_1 : decode cX11_signOf 1 = .ok (.istore_n 2, 1) := by decide +kernel
theorem dX11_signOf_2 : decode cX11_signOf 2 = .ok (.iconst 0, 1) := by decide +kernel
theorem dX11_signOf_3 : decode cX11_signOf 3 = .ok (.istore_n 3, 1) := by decide +kernel
theorem dX11_signOf_4 : decode cX11_signOf 4 = .ok (.iload_n 3, 1) := by decide +kernel
theorem dX11_signOf_5 : decode cX11_signOf 5 = .ok (.aload_n 0, 1) := by decide +kernel
theorem dX11_signOf_6 : decode cX11_signOf 6 = .ok (.iload_n 1, 1) := by decide +kernel
theorem dX11_signOf_7 : decode cX11_signOf 7 = .ok (.invokevirtual 188, 3) := by decide +kernel
theorem dX11_signOf_10 : decode cX11_signOf 10 = .ok (.if_icmp .ge 28, 3) := by decide +kernel
theorem dX11_signOf_13 : decode cX11_signOf 13 = .ok (.iload_n 2, 1) := by decide +kernel
theorem dX11_signOf_14 : decode cX11_signOf 14 = .ok (.aload_n 0, 1) := by decide +kernel
theorem dX11_signOf_15 : decode cX11_signOf 15 = .ok (.iload_n 1, 1) := by decide +kernel
theorem dX11_signOf_16 : decode cX11_signOf 16 = .ok (.iload_n 3, 1) := by decide +kernel
theorem dX11_signOf_17 : decode cX11_signOf 17 = .ok (.iconst 0, 1) := by decide +kernel
theorem dX11_signOf_18 : decode cX11_signOf 18 = .ok (.invokevirtual 191, 3) := by decide +kernel
theorem dX11_signOf_21 : decode cX11_signOf 21 = .ok (.iconst 1, 1) := by decide +kernel
theorem dX11_signOf_22 : decode cX11_signOf 22 = .ok (.if_icmp .eq 7, 3) := by decide +kernel
theorem dX11_signOf_25 : decode cX11_signOf 25 = .ok (.iconst 1, 1) := by decide +kernel
theorem dX11_signOf_26 : decode cX11_signOf 26 = .ok (.goto 4, 3) := by decide +kernel
theorem dX11_signOf_29 : decode cX11_signOf 29 = .ok (.iconst 0, 1) := by decide +kernel
theorem dX11_signOf_30 : decode cX11_signOf 30 = .ok (.iadd, 1) := by decide +kernel
theorem dX11_signOf_31 : decode cX11_signOf 31 = .ok (.istore_n 2, 1) := by decide +kernel
theorem dX11_signOf_32 : decode cX11_signOf 32 = .ok (.iinc 3 1, 3) := by decide +kernel
theorem dX11_signOf_35 : decode cX11_signOf 35 = .ok (.goto (-31), 3) := by decide +kernel
theorem dX11_signOf_38 : decode cX11_signOf 38 = .ok (.iload_n 2, 1) := by decide +kernel
theorem dX11_signOf_39 : decode cX11_signOf 39 = .ok (.iconst 2, 1) := by decide +kernel
theorem dX11_signOf_40 : decode cX11_signOf 40 = .ok (.irem, 1) := by decide +kernel
theorem dX11_signOf_41 : decode cX11_signOf 41 = .ok (.ifCond .ne 7, 3) := by decide +kernel
theorem dX11_signOf_44 : decode cX11_signOf 44 = .ok (.iconst 1, 1) := by decide +kernel
theorem dX11_signOf_45 : decode cX11_signOf 45 = .ok (.goto 4, 3) := by decide +kernel
theorem dX11_signOf_48 : decode cX11_signOf 48 = .ok (.iconst (-1), 1) := by decide +kernel
theorem dX11_signOf_49 : decode cX11_signOf 49 = .ok (.ireturn, 1) := by decide +kernel
theorem dX11_own_0 : decode cX11_own 0 = .ok (.aload_n 0, 1) := by decide +kernel
theorem dX11_own_1 : decode cX11_own 1 = .ok (.iload_n 1, 1) := by decide +kernel
theorem dX11_own_2 : decode cX11_own 2 = .ok (.invokevirtual 188, 3) := by decide +kernel
theorem dX11_own_5 : decode cX11_own 5 = .ok (.ifCond .ne 7, 3) := by decide +kernel
theorem dX11_own_8 : decode cX11_own 8 = .ok (.lconst 0, 1) := by decide +kernel
theorem dX11_own_9 : decode cX11_own 9 = .ok (.goto 9, 3) := by decide +kernel
theorem dX11_own_12 : decode cX11_own 12 = .ok (.aload_n 0, 1) := by decide +kernel
theorem dX11_own_13 : decode cX11_own 13 = .ok (.iload_n 1, 1) := by decide +kernel
theorem dX11_own_14 : decode cX11_own 14 = .ok (.invokevirtual 261, 3) := by decide +kernel
theorem dX11_own_17 : decode cX11_own 17 = .ok (.i2l, 1) := by decide +kernel
theorem dX11_own_18 : decode cX11_own 18 = .ok (.lstore_n 2, 1) := by decide +kernel
theorem dX11_own_19 : decode cX11_own 19 = .ok (.lconst 1, 1) := by decide +kernel
theorem dX11_own_20 : decode cX11_own 20 = .ok (.lstore 4, 2) := by decide +kernel
theorem dX11_own_22 : decode cX11_own 22 = .ok (.iconst 0, 1) := by decide +kernel
theorem dX11_own_23 : decode cX11_own 23 = .ok (.istore 6, 2) := by decide +kernel
theorem dX11_own_25 : decode cX11_own 25 = .ok (.iload 6, 2) := by decide +kernel
theorem dX11_own_27 : decode cX11_own 27 = .ok (.aload_n 0, 1) := by decide +kernel
theorem dX11_own_28 : decode cX11_own 28 = .ok (.iload_n 1, 1) := by decide +kernel
theorem dX11_own_29 : decode cX11_own 29 = .ok (.invokevirtual 188, 3) := by decide +kernel
theorem dX11_own_32 : decode cX11_own 32 = .ok (.if_icmp .ge 50, 3) := by decide +kernel
theorem dX11_own_35 : decode cX11_own 35 = .ok (.aload_n 0, 1) := by decide +kernel
theorem dX11_own_36 : decode cX11_own 36 = .ok (.iload_n 1, 1) := by decide +kernel
theorem dX11_own_37 : decode cX11_own 37 = .ok (.iload 6, 2) := by decide +kernel
theorem dX11_own_39 : decode cX11_own 39 = .ok (.iconst 0, 1) := by decide +kernel
theorem dX11_own_40 : decode cX11_own 40 = .ok (.invokevirtual 191, 3) := by decide +kernel
theorem dX11_own_43 : decode cX11_own 43 = .ok (.iconst 2, 1) := by decide +kernel
theorem dX11_own_44 : decode cX11_own 44 = .ok (.if_icmp .ne 6, 3) := by decide +kernel
theorem dX11_own_47 : decode cX11_own 47 = .ok (.goto 29, 3) := by decide +kernel
theorem dX11_own_50 : decode cX11_own 50 = .ok (.lload_n 2, 1) := by decide +kernel
theorem dX11_own_51 : decode cX11_own 51 = .ok (.aload_n 0, 1) := by decide +kernel
theorem dX11_own_52 : decode cX11_own 52 = .ok (.iload_n 1, 1) := by decide +kernel
theorem dX11_own_53 : decode cX11_own 53 = .ok (.iload 6, 2) := by decide +kernel
theorem dX11_own_55 : decode cX11_own 55 = .ok (.iconst 1, 1) := by decide +kernel
theorem dX11_own_56 : decode cX11_own 56 = .ok (.invokevirtual 191, 3) := by decide +kernel
theorem dX11_own_59 : decode cX11_own 59 = .ok (.i2l, 1) := by decide +kernel
theorem dX11_own_60 : decode cX11_own 60 = .ok (.lmul, 1) := by decide +kernel
theorem dX11_own_61 : decode cX11_own 61 = .ok (.lstore_n 2, 1) := by decide +kernel
theorem dX11_own_62 : decode cX11_own 62 = .ok (.lload 4, 2) := by decide +kernel
theorem dX11_own_64 : decode cX11_own 64 = .ok (.aload_n 0, 1) := by decide +kernel
theorem dX11_own_65 : decode cX11_own 65 = .ok (.iload_n 1, 1) := by decide +kernel
theorem dX11_own_66 : decode cX11_own 66 = .ok (.iload 6, 2) := by decide +kernel
theorem dX11_own_68 : decode cX11_own 68 = .ok (.iconst 2, 1) := by decide +kernel
theorem dX11_own_69 : decode cX11_own 69 = .ok (.invokevirtual 191, 3) := by decide +kernel
theorem dX11_own_72 : decode cX11_own 72 = .ok (.i2l, 1) := by decide +kernel
theorem dX11_own_73 : decode cX11_own 73 = .ok (.lmul, 1) := by decide +kernel
theorem dX11_own_74 : decode cX11_own 74 = .ok (.lstore 4, 2) := by decide +kernel
theorem dX11_own_76 : decode cX11_own 76 = .ok (.iinc 6 1, 3) := by decide +kernel
theorem dX11_own_79 : decode cX11_own 79 = .ok (.goto (-54), 3) := by decide +kernel
theorem dX11_own_82 : decode cX11_own 82 = .ok (.aload_n 0, 1) := by decide +kernel
theorem dX11_own_83 : decode cX11_own 83 = .ok (.lload_n 2, 1) := by decide +kernel
theorem dX11_own_84 : decode cX11_own 84 = .ok (.lload 4, 2) := by decide +kernel
theorem dX11_own_86 : decode cX11_own 86 = .ok (.invokevirtual 264, 3) := by decide +kernel
theorem dX11_own_89 : decode cX11_own 89 = .ok (.return_, 1) := by decide +kernel
theorem dX11_ratio_0 : decode cX11_ratio 0 = .ok (.aload_n 0, 1) := by decide +kernel
theorem dX11_ratio_1 : decode cX11_ratio 1 = .ok (.iload_n 1, 1) := by decide +kernel
theorem dX11_ratio_2 : decode cX11_ratio 2 = .ok (.invokevirtual 268, 3) := by decide +kernel
theorem dX11_ratio_5 : decode cX11_ratio 5 = .ok (.aload_n 0, 1) := by decide +kernel
theorem dX11_ratio_6 : decode cX11_ratio 6 = .ok (.iload_n 1, 1) := by decide +kernel
theorem dX11_ratio_7 : decode cX11_ratio 7 = .ok (.iconst 2, 1) := by decide +kernel
theorem dX11_ratio_8 : decode cX11_ratio 8 = .ok (.invokevirtual 185, 3) := by decide +kernel
theorem dX11_ratio_11 : decode cX11_ratio 11 = .ok (.iconst (-1), 1) := by decide +kernel
theorem dX11_ratio_12 : decode cX11_ratio 12 = .ok (.if_icmp .ne 4, 3) := by decide +kernel
theorem dX11_ratio_15 : decode cX11_ratio 15 = .ok (.return_, 1) := by decide +kernel
theorem dX11_ratio_16 : decode cX11_ratio 16 = .ok (.aload_n 0, 1) := by decide +kernel
theorem dX11_ratio_17 : decode cX11_ratio 17 = .ok (.getfield 249, 3) := by decide +kernel
theorem dX11_ratio_20 : decode cX11_ratio 20 = .ok (.lstore_n 2, 1) := by decide +kernel
theorem dX11_ratio_21 : decode cX11_ratio 21 = .ok (.aload_n 0, 1) := by decide +kernel
theorem dX11_ratio_22 : decode cX11_ratio 22 = .ok (.getfield 253, 3) := by decide +kernel
theorem dX11_ratio_25 : decode cX11_ratio 25 = .ok (.lstore 4, 2) := by decide +kernel
theorem dX11_ratio_27 : decode cX11_ratio 27 = .ok (.aload_n 0, 1) := by decide +kernel
theorem dX11_ratio_28 : decode cX11_ratio 28 = .ok (.aload_n 0, 1) := by decide +kernel
theorem dX11_ratio_29 : decode cX11_ratio 29 = .ok (.iload_n 1, 1) := by decide +kernel
theorem dX11_ratio_30 : decode cX11_ratio 30 = .ok (.iconst 2, 1) := by decide +kernel
theorem dX11_ratio_31 : decode cX11_ratio 31 = .ok (.invokevirtual 185, 3) := by decide +kernel
theorem dX11_ratio_34 : decode cX11_ratio 34 = .ok (.invokevirtual 268, 3) := by decide +kernel
theorem dX11_ratio_37 : decode cX11_ratio 37 = .ok (.aload_n 0, 1) := by decide +kernel
theorem dX11_ratio_38 : decode cX11_ratio 38 = .ok (.lload_n 2, 1) := by decide +kernel
theorem dX11_ratio_39 : decode cX11_ratio 39 = .ok (.aload_n 0, 1) := by decide +kernel
theorem dX11_ratio_40 : decode cX11_ratio 40 = .ok (.getfield 253, 3) := by decide +kernel
theorem dX11_ratio_43 : decode cX11_ratio 43 = .ok (.lmul, 1) := by decide +kernel
theorem dX11_ratio_44 : decode cX11_ratio 44 = .ok (.aload_n 0, 1) := by decide +kernel
theorem dX11_ratio_45 : decode cX11_ratio 45 = .ok (.getfield 249, 3) := by decide +kernel
theorem dX11_ratio_48 : decode cX11_ratio 48 = .ok (.lload 4, 2) := by decide +kernel
theorem dX11_ratio_50 : decode cX11_ratio 50 = .ok (.lmul, 1) := by decide +kernel
theorem dX11_ratio_51 : decode cX11_ratio 51 = .ok (.ladd, 1) := by decide +kernel
theorem dX11_ratio_52 : decode cX11_ratio 52 = .ok (.lload 4, 2) := by decide +kernel
theorem dX11_ratio_54 : decode cX11_ratio 54 = .ok (.aload_n 0, 1) := by decide +kernel
theorem dX11_ratio_55 : decode cX11_ratio 55 = .ok (.getfield 253, 3) := by decide +kernel
theorem dX11_ratio_58 : decode cX11_ratio 58 = .ok (.lmul, 1) := by decide +kernel
theorem dX11_ratio_59 : decode cX11_ratio 59 = .ok (.invokevirtual 264, 3) := by decide +kernel
theorem dX11_ratio_62 : decode cX11_ratio 62 = .ok (.return_, 1) := by decide +kernel
theorem dX11_due_0 : decode cX11_due 0 = .ok (.aload_n 0, 1) := by decide +kernel
theorem dX11_due_1 : decode cX11_due 1 = .ok (.aload_n 0, 1) := by decide +kernel
theorem dX11_due_2 : decode cX11_due 2 = .ok (.iload_n 1, 1) := by decide +kernel
theorem dX11_due_3 : decode cX11_due 3 = .ok (.iconst 1, 1) := by decide +kernel
theorem dX11_due_4 : decode cX11_due 4 = .ok (.invokevirtual 185, 3) := by decide +kernel
theorem dX11_due_7 : decode cX11_due 7 = .ok (.iconst 1, 1) := by decide +kernel
theorem dX11_due_8 : decode cX11_due 8 = .ok (.if_icmp .ne 9, 3) := by decide +kernel
theorem dX11_due_11 : decode cX11_due 11 = .ok (.ldc2_w 271, 3) := by decide +kernel
theorem dX11_due_14 : decode cX11_due 14 = .ok (.goto 6, 3) := by decide +kernel
theorem dX11_due_17 : decode cX11_due 17 = .ok (.ldc2_w 273, 3) := by decide +kernel
theorem dX11_due_20 : decode cX11_due 20 = .ok (.aload_n 0, 1) := by decide +kernel
theorem dX11_due_21 : decode cX11_due 21 = .ok (.iload_n 1, 1) := by decide +kernel
theorem dX11_due_22 : decode cX11_due 22 = .ok (.iconst 0, 1) := by decide +kernel
theorem dX11_due_23 : decode cX11_due 23 = .ok (.invokevirtual 185, 3) := by decide +kernel
theorem dX11_due_26 : decode cX11_due 26 = .ok (.i2l, 1) := by decide +kernel
theorem dX11_due_27 : decode cX11_due 27 = .ok (.invokevirtual 264, 3) := by decide +kernel
theorem dX11_due_30 : decode cX11_due 30 = .ok (.return_, 1) := by decide +kernel
theorem dX11_dueOwn_0 : decode cX11_dueOwn 0 = .ok (.aload_n 0, 1) := by decide +kernel
theorem dX11_dueOwn_1 : decode cX11_dueOwn 1 = .ok (.iload_n 1, 1) := by decide +kernel
theorem dX11_dueOwn_2 : decode cX11_dueOwn 2 = .ok (.invokevirtual 275, 3) := by decide +kernel
theorem dX11_dueOwn_5 : decode cX11_dueOwn 5 = .ok (.aload_n 0, 1) := by decide +kernel
theorem dX11_dueOwn_6 : decode cX11_dueOwn 6 = .ok (.iload_n 1, 1) := by decide +kernel
theorem dX11_dueOwn_7 : decode cX11_dueOwn 7 = .ok (.iconst 2, 1) := by decide +kernel
theorem dX11_dueOwn_8 : decode cX11_dueOwn 8 = .ok (.invokevirtual 185, 3) := by decide +kernel
theorem dX11_dueOwn_11 : decode cX11_dueOwn 11 = .ok (.iconst (-1), 1) := by decide +kernel
theorem dX11_dueOwn_12 : decode cX11_dueOwn 12 = .ok (.if_icmp .ne 4, 3) := by decide +kernel
theorem dX11_dueOwn_15 : decode cX11_dueOwn 15 = .ok (.return_, 1) := by decide +kernel
theorem dX11_dueOwn_16 : decode cX11_dueOwn 16 = .ok (.aload_n 0, 1) := by decide +kernel
theorem dX11_dueOwn_17 : decode cX11_dueOwn 17 = .ok (.getfield 249, 3) := by decide +kernel
theorem dX11_dueOwn_20 : decode cX11_dueOwn 20 = .ok (.lstore_n 2, 1) := by decide +kernel
theorem dX11_dueOwn_21 : decode cX11_dueOwn 21 = .ok (.aload_n 0, 1) := by decide +kernel
theorem dX11_dueOwn_22 : decode cX11_dueOwn 22 = .ok (.getfield 253, 3) := by decide +kernel
theorem dX11_dueOwn_25 : decode cX11_dueOwn 25 = .ok (.lstore 4, 2) := by decide +kernel
theorem dX11_dueOwn_27 : decode cX11_dueOwn 27 = .ok (.aload_n 0, 1) := by decide +kernel
theorem dX11_dueOwn_28 : decode cX11_dueOwn 28 = .ok (.aload_n 0, 1) := by decide +kernel
theorem dX11_dueOwn_29 : decode cX11_dueOwn 29 = .ok (.iload_n 1, 1) := by decide +kernel
theorem dX11_dueOwn_30 : decode cX11_dueOwn 30 = .ok (.iconst 2, 1) := by decide +kernel
theorem dX11_dueOwn_31 : decode cX11_dueOwn 31 = .ok (.invokevirtual 185, 3) := by decide +kernel
theorem dX11_dueOwn_34 : decode cX11_dueOwn 34 = .ok (.invokevirtual 275, 3) := by decide +kernel
theorem dX11_dueOwn_37 : decode cX11_dueOwn 37 = .ok (.aload_n 0, 1) := by decide +kernel
theorem dX11_dueOwn_38 : decode cX11_dueOwn 38 = .ok (.lload_n 2, 1) := by decide +kernel
theorem dX11_dueOwn_39 : decode cX11_dueOwn 39 = .ok (.aload_n 0, 1) := by decide +kernel
theorem dX11_dueOwn_40 : decode cX11_dueOwn 40 = .ok (.getfield 253, 3) := by decide +kernel
theorem dX11_dueOwn_43 : decode cX11_dueOwn 43 = .ok (.lmul, 1) := by decide +kernel
theorem dX11_dueOwn_44 : decode cX11_dueOwn 44 = .ok (.aload_n 0, 1) := by decide +kernel
theorem dX11_dueOwn_45 : decode cX11_dueOwn 45 = .ok (.getfield 249, 3) := by decide +kernel
theorem dX11_dueOwn_48 : decode cX11_dueOwn 48 = .ok (.lload 4, 2) := by decide +kernel
theorem dX11_dueOwn_50 : decode cX11_dueOwn 50 = .ok (.lmul, 1) := by decide +kernel
theorem dX11_dueOwn_51 : decode cX11_dueOwn 51 = .ok (.lsub, 1) := by decide +kernel
theorem dX11_dueOwn_52 : decode cX11_dueOwn 52 = .ok (.lload 4, 2) := by decide +kernel
theorem dX11_dueOwn_54 : decode cX11_dueOwn 54 = .ok (.aload_n 0, 1) := by decide +kernel
theorem dX11_dueOwn_55 : decode cX11_dueOwn 55 = .ok (.getfield 253, 3) := by decide +kernel
theorem dX11_dueOwn_58 : decode cX11_dueOwn 58 = .ok (.lmul, 1) := by decide +kernel
theorem dX11_dueOwn_59 : decode cX11_dueOwn 59 = .ok (.invokevirtual 264, 3) := by decide +kernel
theorem dX11_dueOwn_62 : decode cX11_dueOwn 62 = .ok (.return_, 1) := by decide +kernel
theorem dX11_errorNow_0 : decode cX11_errorNow 0 = .ok (.aload_n 0, 1) := by decide +kernel
theorem dX11_errorNow_1 : decode cX11_errorNow 1 = .ok (.iload_n 1, 1) := by decide +kernel
theorem dX11_errorNow_2 : decode cX11_errorNow 2 = .ok (.invokevirtual 278, 3) := by decide +kernel
theorem dX11_errorNow_5 : decode cX11_errorNow 5 = .ok (.aload_n 0, 1) := by decide +kernel
theorem dX11_errorNow_6 : decode cX11_errorNow 6 = .ok (.getfield 249, 3) := by decide +kernel
theorem dX11_errorNow_9 : decode cX11_errorNow 9 = .ok (.lstore_n 3, 1) := by decide +kernel
theorem dX11_errorNow_10 : decode cX11_errorNow 10 = .ok (.aload_n 0, 1) := by decide +kernel
theorem dX11_errorNow_11 : decode cX11_errorNow 11 = .ok (.getfield 253, 3) := by decide +kernel
theorem dX11_errorNow_14 : decode cX11_errorNow 14 = .ok (.lstore 5, 2) := by decide +kernel
theorem dX11_errorNow_16 : decode cX11_errorNow 16 = .ok (.aload_n 0, 1) := by decide +kernel
theorem dX11_errorNow_17 : decode cX11_errorNow 17 = .ok (.iload_n 1, 1) := by decide +kernel
theorem dX11_errorNow_18 : decode cX11_errorNow 18 = .ok (.invokevirtual 275, 3) := by decide +kernel
theorem dX11_errorNow_21 : decode cX11_errorNow 21 = .ok (.lload_n 3, 1) := by decide +kernel
theorem dX11_errorNow_22 : decode cX11_errorNow 22 = .ok (.aload_n 0, 1) := by decide +kernel
theorem dX11_errorNow_23 : decode cX11_errorNow 23 = .ok (.getfield 253, 3) := by decide +kernel
theorem dX11_errorNow_26 : decode cX11_errorNow 26 = .ok (.lmul, 1) := by decide +kernel
theorem dX11_errorNow_27 : decode cX11_errorNow 27 = .ok (.aload_n 0, 1) := by decide +kernel
theorem dX11_errorNow_28 : decode cX11_errorNow 28 = .ok (.getfield 249, 3) := by decide +kernel
theorem dX11_errorNow_31 : decode cX11_errorNow 31 = .ok (.lload 5, 2) := by decide +kernel
theorem dX11_errorNow_33 : decode cX11_errorNow 33 = .ok (.lmul, 1) := by decide +kernel
theorem dX11_errorNow_34 : decode cX11_errorNow 34 = .ok (.lsub, 1) := by decide +kernel
theorem dX11_errorNow_35 : decode cX11_errorNow 35 = .ok (.lstore 7, 2) := by decide +kernel
theorem dX11_errorNow_37 : decode cX11_errorNow 37 = .ok (.aload_n 0, 1) := by decide +kernel
theorem dX11_errorNow_38 : decode cX11_errorNow 38 = .ok (.iload_n 2, 1) := by decide +kernel
theorem dX11_errorNow_39 : decode cX11_errorNow 39 = .ok (.i2l, 1) := by decide +kernel
theorem dX11_errorNow_40 : decode cX11_errorNow 40 = .ok (.ldc2_w 281, 3) := by decide +kernel
theorem dX11_errorNow_43 : decode cX11_errorNow 43 = .ok (.lmul, 1) := by decide +kernel
theorem dX11_errorNow_44 : decode cX11_errorNow 44 = .ok (.lload 7, 2) := by decide +kernel
theorem dX11_errorNow_46 : decode cX11_errorNow 46 = .ok (.invokestatic 239, 3) := by decide +kernel
theorem dX11_errorNow_49 : decode cX11_errorNow 49 = .ok (.lload 5, 2) := by decide +kernel
theorem dX11_errorNow_51 : decode cX11_errorNow 51 = .ok (.aload_n 0, 1) := by decide +kernel
theorem dX11_errorNow_52 : decode cX11_errorNow 52 = .ok (.getfield 253, 3) := by decide +kernel
theorem dX11_errorNow_55 : decode cX11_errorNow 55 = .ok (.lmul, 1) := by decide +kernel
theorem dX11_errorNow_56 : decode cX11_errorNow 56 = .ok (.invokevirtual 283, 3) := by decide +kernel
theorem dX11_errorNow_59 : decode cX11_errorNow 59 = .ok (.lstore 9, 2) := by decide +kernel
theorem dX11_errorNow_61 : decode cX11_errorNow 61 = .ok (.lload 7, 2) := by decide +kernel
theorem dX11_errorNow_63 : decode cX11_errorNow 63 = .ok (.lconst 0, 1) := by decide +kernel
theorem dX11_errorNow_64 : decode cX11_errorNow 64 = .ok (.lcmp, 1) := by decide +kernel
theorem dX11_errorNow_65 : decode cX11_errorNow 65 = .ok (.ifCond .ge 9, 3) := by decide +kernel
theorem dX11_errorNow_68 : decode cX11_errorNow 68 = .ok (.lload 9, 2) := by decide +kernel
theorem dX11_errorNow_70 : decode cX11_errorNow 70 = .ok (.lneg, 1) := by decide +kernel
theorem dX11_errorNow_71 : decode cX11_errorNow 71 = .ok (.goto 5, 3) := by decide +kernel
theorem dX11_errorNow_74 : decode cX11_errorNow 74 = .ok (.lload 9, 2) := by decide +kernel
theorem dX11_errorNow_76 : decode cX11_errorNow 76 = .ok (.lreturn, 1) := by decide +kernel
theorem dX11_angleNow_0 : decode cX11_angleNow 0 = .ok (.iload_n 1, 1) := by decide +kernel
theorem dX11_angleNow_1 : decode cX11_angleNow 1 = .ok (.i2l, 1) := by decide +kernel
theorem dX11_angleNow_2 : decode cX11_angleNow 2 = .ok (.aload_n 0, 1) := by decide +kernel
theorem dX11_angleNow_3 : decode cX11_angleNow 3 = .ok (.getfield 249, 3) := by decide +kernel
theorem dX11_angleNow_6 : decode cX11_angleNow 6 = .ok (.lmul, 1) := by decide +kernel
theorem dX11_angleNow_7 : decode cX11_angleNow 7 = .ok (.aload_n 0, 1) := by decide +kernel
theorem dX11_angleNow_8 : decode cX11_angleNow 8 = .ok (.getfield 253, 3) := by decide +kernel
theorem dX11_angleNow_11 : decode cX11_angleNow 11 = .ok (.invokestatic 287, 3) := by decide +kernel
theorem dX11_angleNow_14 : decode cX11_angleNow 14 = .ok (.ldc2_w 281, 3) := by decide +kernel
theorem dX11_angleNow_17 : decode cX11_angleNow 17 = .ok (.lmul, 1) := by decide +kernel
theorem dX11_angleNow_18 : decode cX11_angleNow 18 = .ok (.aload_n 0, 1) := by decide +kernel
theorem dX11_angleNow_19 : decode cX11_angleNow 19 = .ok (.getfield 253, 3) := by decide +kernel
theorem dX11_angleNow_22 : decode cX11_angleNow 22 = .ok (.ldiv, 1) := by decide +kernel
theorem dX11_angleNow_23 : decode cX11_angleNow 23 = .ok (.l2i, 1) := by decide +kernel
theorem dX11_angleNow_24 : decode cX11_angleNow 24 = .ok (.ireturn, 1) := by decide +kernel
theorem dX11_angleOf_0 : decode cX11_angleOf 0 = .ok (.aload_n 0, 1) := by decide +kernel
theorem dX11_angleOf_1 : decode cX11_angleOf 1 = .ok (.iload_n 1, 1) := by decide +kernel
theorem dX11_angleOf_2 : decode cX11_angleOf 2 = .ok (.invokevirtual 278, 3) := by decide +kernel
theorem dX11_angleOf_5 : decode cX11_angleOf 5 = .ok (.aload_n 0, 1) := by decide +kernel
theorem dX11_angleOf_6 : decode cX11_angleOf 6 = .ok (.iload_n 2, 1) := by decide +kernel
theorem dX11_angleOf_7 : decode cX11_angleOf 7 = .ok (.invokevirtual 290, 3) := by decide +kernel
theorem dX11_angleOf_10 : decode cX11_angleOf 10 = .ok (.ireturn, 1) := by decide +kernel
theorem dX11_drum_0 : decode cX11_drum 0 = .ok (.aload_n 0, 1) := by decide +kernel
theorem dX11_drum_1 : decode cX11_drum 1 = .ok (.iload_n 1, 1) := by decide +kernel
theorem dX11_drum_2 : decode cX11_drum 2 = .ok (.invokevirtual 278, 3) := by decide +kernel
theorem dX11_drum_5 : decode cX11_drum 5 = .ok (.aload_n 0, 1) := by decide +kernel
theorem dX11_drum_6 : decode cX11_drum 6 = .ok (.iload_n 2, 1) := by decide +kernel
theorem dX11_drum_7 : decode cX11_drum 7 = .ok (.i2l, 1) := by decide +kernel
theorem dX11_drum_8 : decode cX11_drum 8 = .ok (.ldc2_w 281, 3) := by decide +kernel
theorem dX11_drum_11 : decode cX11_drum 11 = .ok (.lmul, 1) := by decide +kernel
theorem dX11_drum_12 : decode cX11_drum 12 = .ok (.aload_n 0, 1) := by decide +kernel
theorem dX11_drum_13 : decode cX11_drum 13 = .ok (.getfield 249, 3) := by decide +kernel
theorem dX11_drum_16 : decode cX11_drum 16 = .ok (.invokestatic 239, 3) := by decide +kernel
theorem dX11_drum_19 : decode cX11_drum 19 = .ok (.aload_n 0, 1) := by decide +kernel
theorem dX11_drum_20 : decode cX11_drum 20 = .ok (.getfield 253, 3) := by decide +kernel
theorem dX11_drum_23 : decode cX11_drum 23 = .ok (.invokevirtual 283, 3) := by decide +kernel
theorem dX11_drum_26 : decode cX11_drum 26 = .ok (.lstore_n 3, 1) := by decide +kernel
theorem dX11_drum_27 : decode cX11_drum 27 = .ok (.aload_n 0, 1) := by decide +kernel
theorem dX11_drum_28 : decode cX11_drum 28 = .ok (.getfield 249, 3) := by decide +kernel
theorem dX11_drum_31 : decode cX11_drum 31 = .ok (.lconst 0, 1) := by decide +kernel
theorem dX11_drum_32 : decode cX11_drum 32 = .ok (.lcmp, 1) := by decide +kernel
theorem dX11_drum_33 : decode cX11_drum 33 = .ok (.ifCond .ge 21, 3) := by decide +kernel
theorem dX11_drum_36 : decode cX11_drum 36 = .ok (.lload_n 3, 1) := by decide +kernel
theorem dX11_drum_37 : decode cX11_drum 37 = .ok (.lneg, 1) := by decide +kernel
theorem dX11_drum_38 : decode cX11_drum 38 = .ok (.aload_n 0, 1) := by decide +kernel
theorem dX11_drum_39 : decode cX11_drum 39 = .ok (.getfield 258, 3) := by decide +kernel
theorem dX11_drum_42 : decode cX11_drum 42 = .ok (.ifCond .eq 7, 3) := by decide +kernel
theorem dX11_drum_45 : decode cX11_drum 45 = .ok (.lconst 1, 1) := by decide +kernel
theorem dX11_drum_46 : decode cX11_drum 46 = .ok (.goto 4, 3) := by decide +kernel
theorem dX11_drum_49 : decode cX11_drum 49 = .ok (.lconst 0, 1) := by decide +kernel
theorem dX11_drum_50 : decode cX11_drum 50 = .ok (.lsub, 1) := by decide +kernel
theorem dX11_drum_51 : decode cX11_drum 51 = .ok (.goto 4, 3) := by decide +kernel
theorem dX11_drum_54 : decode cX11_drum 54 = .ok (.lload_n 3, 1) := by decide +kernel
theorem dX11_drum_55 : decode cX11_drum 55 = .ok (.lreturn, 1) := by decide +kernel
theorem dX11_meshes_0 : decode cX11_meshes 0 = .ok (.iconst 0, 1) := by decide +kernel
theorem dX11_meshes_1 : decode cX11_meshes 1 = .ok (.istore_n 2, 1) := by decide +kernel
theorem dX11_meshes_2 : decode cX11_meshes 2 = .ok (.iconst 0, 1) := by decide +kernel
theorem dX11_meshes_3 : decode cX11_meshes 3 = .ok (.istore_n 3, 1) := by decide +kernel
theorem dX11_meshes_4 : decode cX11_meshes 4 = .ok (.iload_n 3, 1) := by decide +kernel
theorem dX11_meshes_5 : decode cX11_meshes 5 = .ok (.aload_n 0, 1) := by decide +kernel
theorem dX11_meshes_6 : decode cX11_meshes 6 = .ok (.iload_n 1, 1) := by decide +kernel
theorem dX11_meshes_7 : decode cX11_meshes 7 = .ok (.invokevirtual 188, 3) := by decide +kernel
theorem dX11_meshes_10 : decode cX11_meshes 10 = .ok (.if_icmp .ge 28, 3) := by decide +kernel
theorem dX11_meshes_13 : decode cX11_meshes 13 = .ok (.iload_n 2, 1) := by decide +kernel
theorem dX11_meshes_14 : decode cX11_meshes 14 = .ok (.aload_n 0, 1) := by decide +kernel
theorem dX11_meshes_15 : decode cX11_meshes 15 = .ok (.iload_n 1, 1) := by decide +kernel
theorem dX11_meshes_16 : decode cX11_meshes 16 = .ok (.iload_n 3, 1) := by decide +kernel
theorem dX11_meshes_17 : decode cX11_meshes 17 = .ok (.iconst 0, 1) := by decide +kernel
theorem dX11_meshes_18 : decode cX11_meshes 18 = .ok (.invokevirtual 191, 3) := by decide +kernel
theorem dX11_meshes_21 : decode cX11_meshes 21 = .ok (.iconst 2, 1) := by decide +kernel
theorem dX11_meshes_22 : decode cX11_meshes 22 = .ok (.if_icmp .ne 7, 3) := by decide +kernel
theorem dX11_meshes_25 : decode cX11_meshes 25 = .ok (.iconst 2, 1) := by decide +kernel
theorem dX11_meshes_26 : decode cX11_meshes 26 = .ok (.goto 4, 3) := by decide +kernel
theorem dX11_meshes_29 : decode cX11_meshes 29 = .ok (.iconst 1, 1) := by decide +kernel
theorem dX11_meshes_30 : decode cX11_meshes 30 = .ok (.iadd, 1) := by decide +kernel
theorem dX11_meshes_31 : decode cX11_meshes 31 = .ok (.istore_n 2, 1) := by decide +kernel
theorem dX11_meshes_32 : decode cX11_meshes 32 = .ok (.iinc 3 1, 3) := by decide +kernel
theorem dX11_meshes_35 : decode cX11_meshes 35 = .ok (.goto (-31), 3) := by decide +kernel
theorem dX11_meshes_38 : decode cX11_meshes 38 = .ok (.iload_n 2, 1) := by decide +kernel
theorem dX11_meshes_39 : decode cX11_meshes 39 = .ok (.ireturn, 1) := by decide +kernel
theorem dX11_backlashNow_0 : decode cX11_backlashNow 0 = .ok (.lconst 0, 1) := by decide +kernel
theorem dX11_backlashNow_1 : decode cX11_backlashNow 1 = .ok (.lstore_n 2, 1) := by decide +kernel
theorem dX11_backlashNow_2 : decode cX11_backlashNow 2 = .ok (.lconst 1, 1) := by decide +kernel
theorem dX11_backlashNow_3 : decode cX11_backlashNow 3 = .ok (.lstore 4, 2) := by decide +kernel
theorem dX11_backlashNow_5 : decode cX11_backlashNow 5 = .ok (.lconst 1, 1) := by decide +kernel
theorem dX11_backlashNow_6 : decode cX11_backlashNow 6 = .ok (.lstore 6, 2) := by decide +kernel
theorem dX11_backlashNow_8 : decode cX11_backlashNow 8 = .ok (.aload_n 0, 1) := by decide +kernel
theorem dX11_backlashNow_9 : decode cX11_backlashNow 9 = .ok (.iload_n 1, 1) := by decide +kernel
theorem dX11_backlashNow_10 : decode cX11_backlashNow 10 = .ok (.invokevirtual 188, 3) := by decide +kernel
theorem dX11_backlashNow_13 : decode cX11_backlashNow 13 = .ok (.iconst 1, 1) := by decide +kernel
theorem dX11_backlashNow_14 : decode cX11_backlashNow 14 = .ok (.isub, 1) := by decide +kernel
theorem dX11_backlashNow_15 : decode cX11_backlashNow 15 = .ok (.istore 8, 2) := by decide +kernel
theorem dX11_backlashNow_17 : decode cX11_backlashNow 17 = .ok (.iload 8, 2) := by decide +kernel
theorem dX11_backlashNow_19 : decode cX11_backlashNow 19 = .ok (.ifCond .lt 94, 3) := by decide +kernel
theorem dX11_backlashNow_22 : decode cX11_backlashNow 22 = .ok (.aload_n 0, 1) := by decide +kernel
theorem dX11_backlashNow_23 : decode cX11_backlashNow 23 = .ok (.iload_n 1, 1) := by decide +kernel
theorem dX11_backlashNow_24 : decode cX11_backlashNow 24 = .ok (.iload 8, 2) := by decide +kernel
theorem dX11_backlashNow_26 : decode cX11_backlashNow 26 = .ok (.iconst 0, 1) := by decide +kernel
theorem dX11_backlashNow_27 : decode cX11_backlashNow 27 = .ok (.invokevirtual 191, 3) := by decide +kernel
theorem dX11_backlashNow_30 : decode cX11_backlashNow 30 = .ok (.iconst 2, 1) := by decide +kernel
theorem dX11_backlashNow_31 : decode cX11_backlashNow 31 = .ok (.if_icmp .ne 7, 3) := by decide +kernel
theorem dX11_backlashNow_34 : decode cX11_backlashNow 34 = .ok (.iconst 1, 1) := by decide +kernel
theorem dX11_backlashNow_35 : decode cX11_backlashNow 35 = .ok (.goto 4, 3) := by decide +kernel
theorem dX11_backlashNow_38 : decode cX11_backlashNow 38 = .ok (.iconst 0, 1) := by decide +kernel
theorem dX11_backlashNow_39 : decode cX11_backlashNow 39 = .ok (.istore 9, 2) := by decide +kernel
theorem dX11_backlashNow_41 : decode cX11_backlashNow 41 = .ok (.lload_n 2, 1) := by decide +kernel
theorem dX11_backlashNow_42 : decode cX11_backlashNow 42 = .ok (.iload 9, 2) := by decide +kernel
theorem dX11_backlashNow_44 : decode cX11_backlashNow 44 = .ok (.ifCond .eq 9, 3) := by decide +kernel
theorem dX11_backlashNow_47 : decode cX11_backlashNow 47 = .ok (.ldc2_w 256, 3) := by decide +kernel
theorem dX11_backlashNow_50 : decode cX11_backlashNow 50 = .ok (.goto 4, 3) := by decide +kernel
theorem dX11_backlashNow_53 : decode cX11_backlashNow 53 = .ok (.lconst 1, 1) := by decide +kernel
theorem dX11_backlashNow_54 : decode cX11_backlashNow 54 = .ok (.lload 6, 2) := by decide +kernel
theorem dX11_backlashNow_56 : decode cX11_backlashNow 56 = .ok (.lmul, 1) := by decide +kernel
theorem dX11_backlashNow_57 : decode cX11_backlashNow 57 = .ok (.ladd, 1) := by decide +kernel
theorem dX11_backlashNow_58 : decode cX11_backlashNow 58 = .ok (.lstore_n 2, 1) := by decide +kernel
theorem dX11_backlashNow_59 : decode cX11_backlashNow 59 = .ok (.iload 9, 2) := by decide +kernel
theorem dX11_backlashNow_61 : decode cX11_backlashNow 61 = .ok (.ifCond .eq 6, 3) := by decide +kernel
theorem dX11_backlashNow_64 : decode cX11_backlashNow 64 = .ok (.goto 43, 3) := by decide +kernel
theorem dX11_backlashNow_67 : decode cX11_backlashNow 67 = .ok (.lload_n 2, 1) := by decide +kernel
theorem dX11_backlashNow_68 : decode cX11_backlashNow 68 = .ok (.aload_n 0, 1) := by decide +kernel
theorem dX11_backlashNow_69 : decode cX11_backlashNow 69 = .ok (.iload_n 1, 1) := by decide +kernel
theorem dX11_backlashNow_70 : decode cX11_backlashNow 70 = .ok (.iload 8, 2) := by decide +kernel
