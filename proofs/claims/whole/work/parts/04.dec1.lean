theorem dX0_init_0 : decode cX0_init 0 = .ok (.aload_n 0, 1) := by decide +kernel
theorem dX0_init_1 : decode cX0_init 1 = .ok (.invokespecial 1, 3) := by decide +kernel
theorem dX0_init_4 : decode cX0_init 4 = .ok (.aload_n 0, 1) := by decide +kernel
theorem dX0_init_5 : decode cX0_init 5 = .ok (.iconst 4, 1) := by decide +kernel
theorem dX0_init_6 : decode cX0_init 6 = .ok (.newarray .int, 2) := by decide +kernel
theorem dX0_init_8 : decode cX0_init 8 = .ok (.putfield 7, 3) := by decide +kernel
theorem dX0_init_11 : decode cX0_init 11 = .ok (.aload_n 0, 1) := by decide +kernel
theorem dX0_init_12 : decode cX0_init 12 = .ok (.lconst 0, 1) := by decide +kernel
theorem dX0_init_13 : decode cX0_init 13 = .ok (.putfield 13, 3) := by decide +kernel
theorem dX0_init_16 : decode cX0_init 16 = .ok (.aload_n 0, 1) := by decide +kernel
theorem dX0_init_17 : decode cX0_init 17 = .ok (.lconst 1, 1) := by decide +kernel
theorem dX0_init_18 : decode cX0_init 18 = .ok (.putfield 17, 3) := by decide +kernel
theorem dX0_init_21 : decode cX0_init 21 = .ok (.aload_n 0, 1) := by decide +kernel
theorem dX0_init_22 : decode cX0_init 22 = .ok (.iconst 0, 1) := by decide +kernel
theorem dX0_init_23 : decode cX0_init 23 = .ok (.putfield 20, 3) := by decide +kernel
theorem dX0_init_26 : decode cX0_init 26 = .ok (.aload_n 0, 1) := by decide +kernel
theorem dX0_init_27 : decode cX0_init 27 = .ok (.lconst 0, 1) := by decide +kernel
theorem dX0_init_28 : decode cX0_init 28 = .ok (.putfield 24, 3) := by decide +kernel
theorem dX0_init_31 : decode cX0_init 31 = .ok (.aload_n 0, 1) := by decide +kernel
theorem dX0_init_32 : decode cX0_init 32 = .ok (.lconst 1, 1) := by decide +kernel
theorem dX0_init_33 : decode cX0_init 33 = .ok (.putfield 27, 3) := by decide +kernel
theorem dX0_init_36 : decode cX0_init 36 = .ok (.aload_n 0, 1) := by decide +kernel
theorem dX0_init_37 : decode cX0_init 37 = .ok (.iconst 0, 1) := by decide +kernel
theorem dX0_init_38 : decode cX0_init 38 = .ok (.putfield 30, 3) := by decide +kernel
theorem dX0_init_41 : decode cX0_init 41 = .ok (.return_, 1) := by decide +kernel
theorem dX0_aimAt_0 : decode cX0_aimAt 0 = .ok (.aload_n 0, 1) := by decide +kernel
theorem dX0_aimAt_1 : decode cX0_aimAt 1 = .ok (.aload_n 1, 1) := by decide +kernel
theorem dX0_aimAt_2 : decode cX0_aimAt 2 = .ok (.getfield 34, 3) := by decide +kernel
theorem dX0_aimAt_5 : decode cX0_aimAt 5 = .ok (.invokestatic 39, 3) := by decide +kernel
theorem dX0_aimAt_8 : decode cX0_aimAt 8 = .ok (.putfield 13, 3) := by decide +kernel
theorem dX0_aimAt_11 : decode cX0_aimAt 11 = .ok (.aload_n 0, 1) := by decide +kernel
theorem dX0_aimAt_12 : decode cX0_aimAt 12 = .ok (.aload_n 1, 1) := by decide +kernel
theorem dX0_aimAt_13 : decode cX0_aimAt 13 = .ok (.getfield 45, 3) := by decide +kernel
theorem dX0_aimAt_16 : decode cX0_aimAt 16 = .ok (.putfield 17, 3) := by decide +kernel
theorem dX0_aimAt_19 : decode cX0_aimAt 19 = .ok (.aload_n 0, 1) := by decide +kernel
theorem dX0_aimAt_20 : decode cX0_aimAt 20 = .ok (.iconst 0, 1) := by decide +kernel
theorem dX0_aimAt_21 : decode cX0_aimAt 21 = .ok (.putfield 20, 3) := by decide +kernel
theorem dX0_aimAt_24 : decode cX0_aimAt 24 = .ok (.return_, 1) := by decide +kernel
theorem dX0_findPair_0 : decode cX0_findPair 0 = .ok (.aload_n 0, 1) := by decide +kernel
theorem dX0_findPair_1 : decode cX0_findPair 1 = .ok (.aload_n 2, 1) := by decide +kernel
theorem dX0_findPair_2 : decode cX0_findPair 2 = .ok (.invokevirtual 48, 3) := by decide +kernel
theorem dX0_findPair_5 : decode cX0_findPair 5 = .ok (.iconst 0, 1) := by decide +kernel
theorem dX0_findPair_6 : decode cX0_findPair 6 = .ok (.istore_n 3, 1) := by decide +kernel
theorem dX0_findPair_7 : decode cX0_findPair 7 = .ok (.iload_n 3, 1) := by decide +kernel
theorem dX0_findPair_8 : decode cX0_findPair 8 = .ok (.aload_n 1, 1) := by decide +kernel
theorem dX0_findPair_9 : decode cX0_findPair 9 = .ok (.getfield 52, 3) := by decide +kernel
theorem dX0_findPair_12 : decode cX0_findPair 12 = .ok (.if_icmp .ge 52, 3) := by decide +kernel
theorem dX0_findPair_15 : decode cX0_findPair 15 = .ok (.iconst 0, 1) := by decide +kernel
theorem dX0_findPair_16 : decode cX0_findPair 16 = .ok (.istore 4, 2) := by decide +kernel
theorem dX0_findPair_18 : decode cX0_findPair 18 = .ok (.iload 4, 2) := by decide +kernel
theorem dX0_findPair_20 : decode cX0_findPair 20 = .ok (.aload_n 1, 1) := by decide +kernel
theorem dX0_findPair_21 : decode cX0_findPair 21 = .ok (.getfield 52, 3) := by decide +kernel
theorem dX0_findPair_24 : decode cX0_findPair 24 = .ok (.if_icmp .ge 34, 3) := by decide +kernel
theorem dX0_findPair_27 : decode cX0_findPair 27 = .ok (.iload_n 3, 1) := by decide +kernel
theorem dX0_findPair_28 : decode cX0_findPair 28 = .ok (.iload 4, 2) := by decide +kernel
theorem dX0_findPair_30 : decode cX0_findPair 30 = .ok (.if_icmp .eq 22, 3) := by decide +kernel
theorem dX0_findPair_33 : decode cX0_findPair 33 = .ok (.aload_n 0, 1) := by decide +kernel
theorem dX0_findPair_34 : decode cX0_findPair 34 = .ok (.aload_n 1, 1) := by decide +kernel
theorem dX0_findPair_35 : decode cX0_findPair 35 = .ok (.getfield 57, 3) := by decide +kernel
theorem dX0_findPair_38 : decode cX0_findPair 38 = .ok (.iload_n 3, 1) := by decide +kernel
theorem dX0_findPair_39 : decode cX0_findPair 39 = .ok (.iaload, 1) := by decide +kernel
theorem dX0_findPair_40 : decode cX0_findPair 40 = .ok (.aload_n 1, 1) := by decide +kernel
theorem dX0_findPair_41 : decode cX0_findPair 41 = .ok (.getfield 57, 3) := by decide +kernel
theorem dX0_findPair_44 : decode cX0_findPair 44 = .ok (.iload 4, 2) := by decide +kernel
theorem dX0_findPair_46 : decode cX0_findPair 46 = .ok (.iaload, 1) := by decide +kernel
theorem dX0_findPair_47 : decode cX0_findPair 47 = .ok (.iconst 1, 1) := by decide +kernel
theorem dX0_findPair_48 : decode cX0_findPair 48 = .ok (.iconst 1, 1) := by decide +kernel
theorem dX0_findPair_49 : decode cX0_findPair 49 = .ok (.invokevirtual 60, 3) := by decide +kernel
theorem dX0_findPair_52 : decode cX0_findPair 52 = .ok (.iinc 4 1, 3) := by decide +kernel
theorem dX0_findPair_55 : decode cX0_findPair 55 = .ok (.goto (-37), 3) := by decide +kernel
theorem dX0_findPair_58 : decode cX0_findPair 58 = .ok (.iinc 3 1, 3) := by decide +kernel
theorem dX0_findPair_61 : decode cX0_findPair 61 = .ok (.goto (-54), 3) := by decide +kernel
theorem dX0_findPair_64 : decode cX0_findPair 64 = .ok (.return_, 1) := by decide +kernel
theorem dX0_findTrain_0 : decode cX0_findTrain 0 = .ok (.aload_n 0, 1) := by decide +kernel
theorem dX0_findTrain_1 : decode cX0_findTrain 1 = .ok (.aload_n 2, 1) := by decide +kernel
theorem dX0_findTrain_2 : decode cX0_findTrain 2 = .ok (.invokevirtual 48, 3) := by decide +kernel
theorem dX0_findTrain_5 : decode cX0_findTrain 5 = .ok (.iconst 0, 1) := by decide +kernel
theorem dX0_findTrain_6 : decode cX0_findTrain 6 = .ok (.istore_n 3, 1) := by decide +kernel
theorem dX0_findTrain_7 : decode cX0_findTrain 7 = .ok (.iload_n 3, 1) := by decide +kernel
theorem dX0_findTrain_8 : decode cX0_findTrain 8 = .ok (.aload_n 1, 1) := by decide +kernel
theorem dX0_findTrain_9 : decode cX0_findTrain 9 = .ok (.getfield 52, 3) := by decide +kernel
theorem dX0_findTrain_12 : decode cX0_findTrain 12 = .ok (.if_icmp .ge 41, 3) := by decide +kernel
theorem dX0_findTrain_15 : decode cX0_findTrain 15 = .ok (.iconst 0, 1) := by decide +kernel
theorem dX0_findTrain_16 : decode cX0_findTrain 16 = .ok (.istore 4, 2) := by decide +kernel
theorem dX0_findTrain_18 : decode cX0_findTrain 18 = .ok (.iload 4, 2) := by decide +kernel
theorem dX0_findTrain_20 : decode cX0_findTrain 20 = .ok (.aload_n 1, 1) := by decide +kernel
theorem dX0_findTrain_21 : decode cX0_findTrain 21 = .ok (.getfield 52, 3) := by decide +kernel
theorem dX0_findTrain_24 : decode cX0_findTrain 24 = .ok (.if_icmp .ge 23, 3) := by decide +kernel
theorem dX0_findTrain_27 : decode cX0_findTrain 27 = .ok (.iload_n 3, 1) := by decide +kernel
theorem dX0_findTrain_28 : decode cX0_findTrain 28 = .ok (.iload 4, 2) := by decide +kernel
theorem dX0_findTrain_30 : decode cX0_findTrain 30 = .ok (.if_icmp .eq 11, 3) := by decide +kernel
theorem dX0_findTrain_33 : decode cX0_findTrain 33 = .ok (.aload_n 0, 1) := by decide +kernel
theorem dX0_findTrain_34 : decode cX0_findTrain 34 = .ok (.aload_n 1, 1) := by decide +kernel
theorem dX0_findTrain_35 : decode cX0_findTrain 35 = .ok (.iload_n 3, 1) := by decide +kernel
theorem dX0_findTrain_36 : decode cX0_findTrain 36 = .ok (.iload 4, 2) := by decide +kernel
theorem dX0_findTrain_38 : decode cX0_findTrain 38 = .ok (.invokevirtual 64, 3) := by decide +kernel
theorem dX0_findTrain_41 : decode cX0_findTrain 41 = .ok (.iinc 4 1, 3) := by decide +kernel
theorem dX0_findTrain_44 : decode cX0_findTrain 44 = .ok (.goto (-26), 3) := by decide +kernel
theorem dX0_findTrain_47 : decode cX0_findTrain 47 = .ok (.iinc 3 1, 3) := by decide +kernel
theorem dX0_findTrain_50 : decode cX0_findTrain 50 = .ok (.goto (-43), 3) := by decide +kernel
theorem dX0_findTrain_53 : decode cX0_findTrain 53 = .ok (.return_, 1) := by decide +kernel
theorem dX0_weighTrainsFrom_0 : decode cX0_weighTrainsFrom 0 = .ok (.iload_n 2, 1) := by decide +kernel
theorem dX0_weighTrainsFrom_1 : decode cX0_weighTrainsFrom 1 = .ok (.istore 4, 2) := by decide +kernel
theorem dX0_weighTrainsFrom_3 : decode cX0_weighTrainsFrom 3 = .ok (.iload 4, 2) := by decide +kernel
theorem dX0_weighTrainsFrom_5 : decode cX0_weighTrainsFrom 5 = .ok (.aload_n 1, 1) := by decide +kernel
theorem dX0_weighTrainsFrom_6 : decode cX0_weighTrainsFrom 6 = .ok (.getfield 52, 3) := by decide +kernel
theorem dX0_weighTrainsFrom_9 : decode cX0_weighTrainsFrom 9 = .ok (.if_icmp .ge 74, 3) := by decide +kernel
theorem dX0_weighTrainsFrom_12 : decode cX0_weighTrainsFrom 12 = .ok (.iload 4, 2) := by decide +kernel
theorem dX0_weighTrainsFrom_14 : decode cX0_weighTrainsFrom 14 = .ok (.iload_n 2, 1) := by decide +kernel
theorem dX0_weighTrainsFrom_15 : decode cX0_weighTrainsFrom 15 = .ok (.if_icmp .ne 7, 3) := by decide +kernel
theorem dX0_weighTrainsFrom_18 : decode cX0_weighTrainsFrom 18 = .ok (.iload_n 3, 1) := by decide +kernel
theorem dX0_weighTrainsFrom_19 : decode cX0_weighTrainsFrom 19 = .ok (.goto 4, 3) := by decide +kernel
theorem dX0_weighTrainsFrom_22 : decode cX0_weighTrainsFrom 22 = .ok (.iconst 0, 1) := by decide +kernel
theorem dX0_weighTrainsFrom_23 : decode cX0_weighTrainsFrom 23 = .ok (.istore 5, 2) := by decide +kernel
theorem dX0_weighTrainsFrom_25 : decode cX0_weighTrainsFrom 25 = .ok (.iload 5, 2) := by decide +kernel
theorem dX0_weighTrainsFrom_27 : decode cX0_weighTrainsFrom 27 = .ok (.aload_n 1, 1) := by decide +kernel
theorem dX0_weighTrainsFrom_28 : decode cX0_weighTrainsFrom 28 = .ok (.getfield 52, 3) := by decide +kernel
theorem dX0_weighTrainsFrom_31 : decode cX0_weighTrainsFrom 31 = .ok (.if_icmp .ge 46, 3) := by decide +kernel
theorem dX0_weighTrainsFrom_34 : decode cX0_weighTrainsFrom 34 = .ok (.iload 4, 2) := by decide +kernel
theorem dX0_weighTrainsFrom_36 : decode cX0_weighTrainsFrom 36 = .ok (.iload 5, 2) := by decide +kernel
theorem dX0_weighTrainsFrom_38 : decode cX0_weighTrainsFrom 38 = .ok (.if_icmp .eq 33, 3) := by decide +kernel
theorem dX0_weighTrainsFrom_41 : decode cX0_weighTrainsFrom 41 = .ok (.aload_n 0, 1) := by decide +kernel
theorem dX0_weighTrainsFrom_42 : decode cX0_weighTrainsFrom 42 = .ok (.aload_n 1, 1) := by decide +kernel
theorem dX0_weighTrainsFrom_43 : decode cX0_weighTrainsFrom 43 = .ok (.getfield 57, 3) := by decide +kernel
theorem dX0_weighTrainsFrom_46 : decode cX0_weighTrainsFrom 46 = .ok (.iload_n 2, 1) := by decide +kernel
theorem dX0_weighTrainsFrom_47 : decode cX0_weighTrainsFrom 47 = .ok (.iaload, 1) := by decide +kernel
theorem dX0_weighTrainsFrom_48 : decode cX0_weighTrainsFrom 48 = .ok (.aload_n 1, 1) := by decide +kernel
theorem dX0_weighTrainsFrom_49 : decode cX0_weighTrainsFrom 49 = .ok (.getfield 57, 3) := by decide +kernel
theorem dX0_weighTrainsFrom_52 : decode cX0_weighTrainsFrom 52 = .ok (.iload_n 3, 1) := by decide +kernel
theorem dX0_weighTrainsFrom_53 : decode cX0_weighTrainsFrom 53 = .ok (.iaload, 1) := by decide +kernel
theorem dX0_weighTrainsFrom_54 : decode cX0_weighTrainsFrom 54 = .ok (.aload_n 1, 1) := by decide +kernel
theorem dX0_weighTrainsFrom_55 : decode cX0_weighTrainsFrom 55 = .ok (.getfield 57, 3) := by decide +kernel
theorem dX0_weighTrainsFrom_58 : decode cX0_weighTrainsFrom 58 = .ok (.iload 4, 2) := by decide +kernel
theorem dX0_weighTrainsFrom_60 : decode cX0_weighTrainsFrom 60 = .ok (.iaload, 1) := by decide +kernel
theorem dX0_weighTrainsFrom_61 : decode cX0_weighTrainsFrom 61 = .ok (.aload_n 1, 1) := by decide +kernel
theorem dX0_weighTrainsFrom_62 : decode cX0_weighTrainsFrom 62 = .ok (.getfield 57, 3) := by decide +kernel
theorem dX0_weighTrainsFrom_65 : decode cX0_weighTrainsFrom 65 = .ok (.iload 5, 2) := by decide +kernel
theorem dX0_weighTrainsFrom_67 : decode cX0_weighTrainsFrom 67 = .ok (.iaload, 1) := by decide +kernel
theorem dX0_weighTrainsFrom_68 : decode cX0_weighTrainsFrom 68 = .ok (.invokevirtual 60, 3) := by decide +kernel
theorem dX0_weighTrainsFrom_71 : decode cX0_weighTrainsFrom 71 = .ok (.iinc 5 1, 3) := by decide +kernel
theorem dX0_weighTrainsFrom_74 : decode cX0_weighTrainsFrom 74 = .ok (.goto (-49), 3) := by decide +kernel
theorem dX0_weighTrainsFrom_77 : decode cX0_weighTrainsFrom 77 = .ok (.iinc 4 1, 3) := by decide +kernel
theorem dX0_weighTrainsFrom_80 : decode cX0_weighTrainsFrom 80 = .ok (.goto (-77), 3) := by decide +kernel
theorem dX0_weighTrainsFrom_83 : decode cX0_weighTrainsFrom 83 = .ok (.return_, 1) := by decide +kernel
theorem dX0_weigh_0 : decode cX0_weigh 0 = .ok (.iload_n 2, 1) := by decide +kernel
theorem dX0_weigh_1 : decode cX0_weigh 1 = .ok (.i2l, 1) := by decide +kernel
theorem dX0_weigh_2 : decode cX0_weigh 2 = .ok (.iload 4, 2) := by decide +kernel
theorem dX0_weigh_4 : decode cX0_weigh 4 = .ok (.i2l, 1) := by decide +kernel
theorem dX0_weigh_5 : decode cX0_weigh 5 = .ok (.lmul, 1) := by decide +kernel
theorem dX0_weigh_6 : decode cX0_weigh 6 = .ok (.lstore 5, 2) := by decide +kernel
theorem dX0_weigh_8 : decode cX0_weigh 8 = .ok (.iload_n 1, 1) := by decide +kernel
theorem dX0_weigh_9 : decode cX0_weigh 9 = .ok (.i2l, 1) := by decide +kernel
theorem dX0_weigh_10 : decode cX0_weigh 10 = .ok (.iload_n 3, 1) := by decide +kernel
theorem dX0_weigh_11 : decode cX0_weigh 11 = .ok (.i2l, 1) := by decide +kernel
theorem dX0_weigh_12 : decode cX0_weigh 12 = .ok (.lmul, 1) := by decide +kernel
theorem dX0_weigh_13 : decode cX0_weigh 13 = .ok (.aload_n 0, 1) := by decide +kernel
theorem dX0_weigh_14 : decode cX0_weigh 14 = .ok (.getfield 17, 3) := by decide +kernel
theorem dX0_weigh_17 : decode cX0_weigh 17 = .ok (.lmul, 1) := by decide +kernel
theorem dX0_weigh_18 : decode cX0_weigh 18 = .ok (.lload 5, 2) := by decide +kernel
theorem dX0_weigh_20 : decode cX0_weigh 20 = .ok (.aload_n 0, 1) := by decide +kernel
theorem dX0_weigh_21 : decode cX0_weigh 21 = .ok (.getfield 13, 3) := by decide +kernel
theorem dX0_weigh_24 : decode cX0_weigh 24 = .ok (.lmul, 1) := by decide +kernel
theorem dX0_weigh_25 : decode cX0_weigh 25 = .ok (.lsub, 1) := by decide +kernel
theorem dX0_weigh_26 : decode cX0_weigh 26 = .ok (.invokestatic 39, 3) := by decide +kernel
theorem dX0_weigh_29 : decode cX0_weigh 29 = .ok (.lstore 7, 2) := by decide +kernel
theorem dX0_weigh_31 : decode cX0_weigh 31 = .ok (.iload_n 1, 1) := by decide +kernel
theorem dX0_weigh_32 : decode cX0_weigh 32 = .ok (.iload_n 2, 1) := by decide +kernel
theorem dX0_weigh_33 : decode cX0_weigh 33 = .ok (.iadd, 1) := by decide +kernel
theorem dX0_weigh_34 : decode cX0_weigh 34 = .ok (.iload_n 3, 1) := by decide +kernel
theorem dX0_weigh_35 : decode cX0_weigh 35 = .ok (.iadd, 1) := by decide +kernel
theorem dX0_weigh_36 : decode cX0_weigh 36 = .ok (.iload 4, 2) := by decide +kernel
theorem dX0_weigh_38 : decode cX0_weigh 38 = .ok (.iadd, 1) := by decide +kernel
theorem dX0_weigh_39 : decode cX0_weigh 39 = .ok (.istore 9, 2) := by decide +kernel
theorem dX0_weigh_41 : decode cX0_weigh 41 = .ok (.aload_n 0, 1) := by decide +kernel
theorem dX0_weigh_42 : decode cX0_weigh 42 = .ok (.getfield 20, 3) := by decide +kernel
theorem dX0_weigh_45 : decode cX0_weigh 45 = .ok (.ifCond .eq 21, 3) := by decide +kernel
theorem dX0_weigh_48 : decode cX0_weigh 48 = .ok (.lload 7, 2) := by decide +kernel
theorem dX0_weigh_50 : decode cX0_weigh 50 = .ok (.lload 5, 2) := by decide +kernel
theorem dX0_weigh_52 : decode cX0_weigh 52 = .ok (.aload_n 0, 1) := by decide +kernel
theorem dX0_weigh_53 : decode cX0_weigh 53 = .ok (.getfield 24, 3) := by decide +kernel
theorem dX0_weigh_56 : decode cX0_weigh 56 = .ok (.aload_n 0, 1) := by decide +kernel
theorem dX0_weigh_57 : decode cX0_weigh 57 = .ok (.getfield 27, 3) := by decide +kernel
theorem dX0_weigh_60 : decode cX0_weigh 60 = .ok (.invokestatic 68, 3) := by decide +kernel
theorem dX0_weigh_63 : decode cX0_weigh 63 = .ok (.goto 4, 3) := by decide +kernel
theorem dX0_weigh_66 : decode cX0_weigh 66 = .ok (.iconst (-1), 1) := by decide +kernel
theorem dX0_weigh_67 : decode cX0_weigh 67 = .ok (.istore 10, 2) := by decide +kernel
theorem dX0_weigh_69 : decode cX0_weigh 69 = .ok (.iload 10, 2) := by decide +kernel
theorem dX0_weigh_71 : decode cX0_weigh 71 = .ok (.ifCond .lt 17, 3) := by decide +kernel
theorem dX0_weigh_74 : decode cX0_weigh 74 = .ok (.iload 10, 2) := by decide +kernel
theorem dX0_weigh_76 : decode cX0_weigh 76 = .ok (.ifCond .ne 64, 3) := by decide +kernel
theorem dX0_weigh_79 : decode cX0_weigh 79 = .ok (.iload 9, 2) := by decide +kernel
theorem dX0_weigh_81 : decode cX0_weigh 81 = .ok (.aload_n 0, 1) := by decide +kernel
theorem dX0_weigh_82 : decode cX0_weigh 82 = .ok (.getfield 30, 3) := by decide +kernel
theorem dX0_weigh_85 : decode cX0_weigh 85 = .ok (.if_icmp .ge 55, 3) := by decide +kernel
theorem dX0_weigh_88 : decode cX0_weigh 88 = .ok (.aload_n 0, 1) := by decide +kernel
theorem dX0_weigh_89 : decode cX0_weigh 89 = .ok (.iconst 1, 1) := by decide +kernel
theorem dX0_weigh_90 : decode cX0_weigh 90 = .ok (.putfield 20, 3) := by decide +kernel
theorem dX0_weigh_93 : decode cX0_weigh 93 = .ok (.aload_n 0, 1) := by decide +kernel
theorem dX0_weigh_94 : decode cX0_weigh 94 = .ok (.lload 7, 2) := by decide +kernel
theorem dX0_weigh_96 : decode cX0_weigh 96 = .ok (.putfield 24, 3) := by decide +kernel
theorem dX0_weigh_99 : decode cX0_weigh 99 = .ok (.aload_n 0, 1) := by decide +kernel
theorem dX0_weigh_100 : decode cX0_weigh 100 = .ok (.lload 5, 2) := by decide +kernel
theorem dX0_weigh_102 : decode cX0_weigh 102 = .ok (.putfield 27, 3) := by decide +kernel
theorem dX0_weigh_105 : decode cX0_weigh 105 = .ok (.aload_n 0, 1) := by decide +kernel
theorem dX0_weigh_106 : decode cX0_weigh 106 = .ok (.iload 9, 2) := by decide +kernel
theorem dX0_weigh_108 : decode cX0_weigh 108 = .ok (.putfield 30, 3) := by decide +kernel
theorem dX0_weigh_111 : decode cX0_weigh 111 = .ok (.aload_n 0, 1) := by decide +kernel
theorem dX0_weigh_112 : decode cX0_weigh 112 = .ok (.getfield 7, 3) := by decide +kernel
theorem dX0_weigh_115 : decode cX0_weigh 115 = .ok (.iconst 0, 1) := by decide +kernel
theorem dX0_weigh_116 : decode cX0_weigh 116 = .ok (.iload_n 1, 1) := by decide +kernel
theorem dX0_weigh_117 : decode cX0_weigh 117 = .ok (.iastore, 1) := by decide +kernel
theorem dX0_weigh_118 : decode cX0_weigh 118 = .ok (.aload_n 0, 1) := by decide +kernel
theorem dX0_weigh_119 : decode cX0_weigh 119 = .ok (.getfield 7, 3) := by decide +kernel
theorem dX0_weigh_122 : decode cX0_weigh 122 = .ok (.iconst 1, 1) := by decide +kernel
theorem dX0_weigh_123 : decode cX0_weigh 123 = .ok (.iload_n 2, 1) := by decide +kernel
theorem dX0_weigh_124 : decode cX0_weigh 124 = .ok (.iastore, 1) := by decide +kernel
theorem dX0_weigh_125 : decode cX0_weigh 125 = .ok (.aload_n 0, 1) := by decide +kernel
theorem dX0_weigh_126 : decode cX0_weigh 126 = .ok (.getfield 7, 3) := by decide +kernel
theorem dX0_weigh_129 : decode cX0_weigh 129 = .ok (.iconst 2, 1) := by decide +kernel
theorem dX0_weigh_130 : decode cX0_weigh 130 = .ok (.iload_n 3, 1) := by decide +kernel
theorem dX0_weigh_131 : decode cX0_weigh 131 = .ok (.iastore, 1) := by decide +kernel
theorem dX0_weigh_132 : decode cX0_weigh 132 = .ok (.aload_n 0, 1) := by decide +kernel
theorem dX0_weigh_133 : decode cX0_weigh 133 = .ok (.getfield 7, 3) := by decide +kernel
theorem dX0_weigh_136 : decode cX0_weigh 136 = .ok (.iconst 3, 1) := by decide +kernel
theorem dX0_weigh_137 : decode cX0_weigh 137 = .ok (.iload 4, 2) := by decide +kernel
theorem dX0_weigh_139 : decode cX0_weigh 139 = .ok (.iastore, 1) := by decide +kernel
theorem dX0_weigh_140 : decode cX0_weigh 140 = .ok (.return_, 1) := by decide +kernel
theorem dX0_nearestDenominator_0 : decode cX0_nearestDenominator 0 = .ok (.iconst 1, 1) := by decide +kernel
theorem dX0_nearestDenominator_1 : decode cX0_nearestDenominator 1 = .ok (.istore_n 3, 1) := by decide +kernel
theorem dX0_nearestDenominator_2 : decode cX0_nearestDenominator 2 = .ok (.iload_n 1, 1) := by decide +kernel
theorem dX0_nearestDenominator_3 : decode cX0_nearestDenominator 3 = .ok (.iconst 1, 1) := by decide +kernel
theorem dX0_nearestDenominator_4 : decode cX0_nearestDenominator 4 = .ok (.invokestatic 72, 3) := by decide +kernel
theorem dX0_nearestDenominator_7 : decode cX0_nearestDenominator 7 = .ok (.lstore 4, 2) := by decide +kernel
theorem dX0_nearestDenominator_9 : decode cX0_nearestDenominator 9 = .ok (.iconst 2, 1) := by decide +kernel
theorem dX0_nearestDenominator_10 : decode cX0_nearestDenominator 10 = .ok (.istore 6, 2) := by decide +kernel
theorem dX0_nearestDenominator_12 : decode cX0_nearestDenominator 12 = .ok (.iload 6, 2) := by decide +kernel
theorem dX0_nearestDenominator_14 : decode cX0_nearestDenominator 14 = .ok (.iload_n 2, 1) := by decide +kernel
theorem dX0_nearestDenominator_15 : decode cX0_nearestDenominator 15 = .ok (.if_icmp .gt 39, 3) := by decide +kernel
theorem dX0_nearestDenominator_18 : decode cX0_nearestDenominator 18 = .ok (.iload_n 1, 1) := by decide +kernel
theorem dX0_nearestDenominator_19 : decode cX0_nearestDenominator 19 = .ok (.iload 6, 2) := by decide +kernel
theorem dX0_nearestDenominator_21 : decode cX0_nearestDenominator 21 = .ok (.invokestatic 72, 3) := by decide +kernel
theorem dX0_nearestDenominator_24 : decode cX0_nearestDenominator 24 = .ok (.lstore 7, 2) := by decide +kernel
theorem dX0_nearestDenominator_26 : decode cX0_nearestDenominator 26 = .ok (.lload 7, 2) := by decide +kernel
theorem dX0_nearestDenominator_28 : decode cX0_nearestDenominator 28 = .ok (.iload_n 3, 1) := by decide +kernel
theorem dX0_nearestDenominator_29 : decode cX0_nearestDenominator 29 = .ok (.i2l, 1) := by decide +kernel
theorem dX0_nearestDenominator_30 : decode cX0_nearestDenominator 30 = .ok (.lmul, 1) := by decide +kernel
theorem dX0_nearestDenominator_31 : decode cX0_nearestDenominator 31 = .ok (.lload 4, 2) := by decide +kernel
theorem dX0_nearestDenominator_33 : decode cX0_nearestDenominator 33 = .ok (.iload 6, 2) := by decide +kernel
theorem dX0_nearestDenominator_35 : decode cX0_nearestDenominator 35 = .ok (.i2l, 1) := by decide +kernel
theorem dX0_nearestDenominator_36 : decode cX0_nearestDenominator 36 = .ok (.lmul, 1) := by decide +kernel
theorem dX0_nearestDenominator_37 : decode cX0_nearestDenominator 37 = .ok (.lcmp, 1) := by decide +kernel
theorem dX0_nearestDenominator_38 : decode cX0_nearestDenominator 38 = .ok (.ifCond .ge 10, 3) := by decide +kernel
theorem dX0_nearestDenominator_41 : decode cX0_nearestDenominator 41 = .ok (.iload 6, 2) := by decide +kernel
theorem dX0_nearestDenominator_43 : decode cX0_nearestDenominator 43 = .ok (.istore_n 3, 1) := by decide +kernel
theorem dX0_nearestDenominator_44 : decode cX0_nearestDenominator 44 = .ok (.lload 7, 2) := by decide +kernel
theorem dX0_nearestDenominator_46 : decode cX0_nearestDenominator 46 = .ok (.lstore 4, 2) := by decide +kernel
theorem dX0_nearestDenominator_48 : decode cX0_nearestDenominator 48 = .ok (.iinc 6 1, 3) := by decide +kernel
theorem dX0_nearestDenominator_51 : decode cX0_nearestDenominator 51 = .ok (.goto (-39), 3) := by decide +kernel
theorem dX0_nearestDenominator_54 : decode cX0_nearestDenominator 54 = .ok (.iload_n 3, 1) := by decide +kernel
theorem dX0_nearestDenominator_55 : decode cX0_nearestDenominator 55 = .ok (.ireturn, 1) := by decide +kernel
theorem dX0_nearestNumerator_0 : decode cX0_nearestNumerator 0 = .ok (.iload_n 0, 1) := by decide +kernel
theorem dX0_nearestNumerator_1 : decode cX0_nearestNumerator 1 = .ok (.ifCond .le 12, 3) := by decide +kernel
theorem dX0_nearestNumerator_4 : decode cX0_nearestNumerator 4 = .ok (.bipush 100, 2) := by decide +kernel
theorem dX0_nearestNumerator_6 : decode cX0_nearestNumerator 6 = .ok (.iload_n 1, 1) := by decide +kernel
theorem dX0_nearestNumerator_7 : decode cX0_nearestNumerator 7 = .ok (.imul, 1) := by decide +kernel
theorem dX0_nearestNumerator_8 : decode cX0_nearestNumerator 8 = .ok (.iload_n 0, 1) := by decide +kernel
theorem dX0_nearestNumerator_9 : decode cX0_nearestNumerator 9 = .ok (.idiv, 1) := by decide +kernel
theorem dX0_nearestNumerator_10 : decode cX0_nearestNumerator 10 = .ok (.goto 4, 3) := by decide +kernel
theorem dX0_nearestNumerator_13 : decode cX0_nearestNumerator 13 = .ok (.iconst 0, 1) := by decide +kernel
theorem dX0_nearestNumerator_14 : decode cX0_nearestNumerator 14 = .ok (.istore_n 2, 1) := by decide +kernel
theorem dX0_nearestNumerator_15 : decode cX0_nearestNumerator 15 = .ok (.ldc2_w 76, 3) := by decide +kernel
theorem dX0_nearestNumerator_18 : decode cX0_nearestNumerator 18 = .ok (.iload_n 1, 1) := by decide +kernel
theorem dX0_nearestNumerator_19 : decode cX0_nearestNumerator 19 = .ok (.i2l, 1) := by decide +kernel
theorem dX0_nearestNumerator_20 : decode cX0_nearestNumerator 20 = .ok (.lmul, 1) := by decide +kernel
theorem dX0_nearestNumerator_21 : decode cX0_nearestNumerator 21 = .ok (.iload_n 2, 1) := by decide +kernel
theorem dX0_nearestNumerator_22 : decode cX0_nearestNumerator 22 = .ok (.i2l, 1) := by decide +kernel
theorem dX0_nearestNumerator_23 : decode cX0_nearestNumerator 23 = .ok (.iload_n 0, 1) := by decide +kernel
theorem dX0_nearestNumerator_24 : decode cX0_nearestNumerator 24 = .ok (.i2l, 1) := by decide +kernel
theorem dX0_nearestNumerator_25 : decode cX0_nearestNumerator 25 = .ok (.lmul, 1) := by decide +kernel
theorem dX0_nearestNumerator_26 : decode cX0_nearestNumerator 26 = .ok (.lsub, 1) := by decide +kernel
theorem dX0_nearestNumerator_27 : decode cX0_nearestNumerator 27 = .ok (.lstore_n 3, 1) := by decide +kernel
theorem dX0_nearestNumerator_28 : decode cX0_nearestNumerator 28 = .ok (.lload_n 3, 1) := by decide +kernel
theorem dX0_nearestNumerator_29 : decode cX0_nearestNumerator 29 = .ok (.iload_n 0, 1) := by decide +kernel
theorem dX0_nearestNumerator_30 : decode cX0_nearestNumerator 30 = .ok (.i2l, 1) := by decide +kernel
theorem dX0_nearestNumerator_31 : decode cX0_nearestNumerator 31 = .ok (.lload_n 3, 1) := by decide +kernel
theorem dX0_nearestNumerator_32 : decode cX0_nearestNumerator 32 = .ok (.lsub, 1) := by decide +kernel
theorem dX0_nearestNumerator_33 : decode cX0_nearestNumerator 33 = .ok (.lcmp, 1) := by decide +kernel
theorem dX0_nearestNumerator_34 : decode cX0_nearestNumerator 34 = .ok (.ifCond .gt 7, 3) := by decide +kernel
theorem dX0_nearestNumerator_37 : decode cX0_nearestNumerator 37 = .ok (.iload_n 2, 1) := by decide +kernel
theorem dX0_nearestNumerator_38 : decode cX0_nearestNumerator 38 = .ok (.goto 6, 3) := by decide +kernel
theorem dX0_nearestNumerator_41 : decode cX0_nearestNumerator 41 = .ok (.iload_n 2, 1) := by decide +kernel
theorem dX0_nearestNumerator_42 : decode cX0_nearestNumerator 42 = .ok (.iconst 1, 1) := by decide +kernel
theorem dX0_nearestNumerator_43 : decode cX0_nearestNumerator 43 = .ok (.iadd, 1) := by decide +kernel
theorem dX0_nearestNumerator_44 : decode cX0_nearestNumerator 44 = .ok (.ireturn, 1) := by decide +kernel
theorem dX0_distanceTo_0 : decode cX0_distanceTo 0 = .ok (.ldc2_w 76, 3) := by decide +kernel
theorem dX0_distanceTo_3 : decode cX0_distanceTo 3 = .ok (.iload_n 1, 1) := by decide +kernel
theorem dX0_distanceTo_4 : decode cX0_distanceTo 4 = .ok (.i2l, 1) := by decide +kernel
theorem dX0_distanceTo_5 : decode cX0_distanceTo 5 = .ok (.lmul, 1) := by decide +kernel
theorem dX0_distanceTo_6 : decode cX0_distanceTo 6 = .ok (.iload_n 0, 1) := by decide +kernel
theorem dX0_distanceTo_7 : decode cX0_distanceTo 7 = .ok (.iload_n 1, 1) := by decide +kernel
theorem dX0_distanceTo_8 : decode cX0_distanceTo 8 = .ok (.invokestatic 78, 3) := by decide +kernel
theorem dX0_distanceTo_11 : decode cX0_distanceTo 11 = .ok (.i2l, 1) := by decide +kernel
theorem dX0_distanceTo_12 : decode cX0_distanceTo 12 = .ok (.iload_n 0, 1) := by decide +kernel
theorem dX0_distanceTo_13 : decode cX0_distanceTo 13 = .ok (.i2l, 1) := by decide +kernel
theorem dX0_distanceTo_14 : decode cX0_distanceTo 14 = .ok (.lmul, 1) := by decide +kernel
theorem dX0_distanceTo_15 : decode cX0_distanceTo 15 = .ok (.lsub, 1) := by decide +kernel
theorem dX0_distanceTo_16 : decode cX0_distanceTo 16 = .ok (.invokestatic 39, 3) := by decide +kernel
theorem dX0_distanceTo_19 : decode cX0_distanceTo 19 = .ok (.lreturn, 1) := by decide +kernel
theorem dX1_init_0 : decode cX1_init 0 = .ok (.aload_n 0, 1) := by decide +kernel
theorem dX1_init_1 : decode cX1_init 1 = .ok (.invokespecial 3, 3) := by decide +kernel
theorem dX1_init_4 : decode cX1_init 4 = .ok (.aload_n 0, 1) := by decide +kernel
theorem dX1_init_5 : decode cX1_init 5 = .ok (.bipush 12, 2) := by decide +kernel
theorem dX1_init_7 : decode cX1_init 7 = .ok (.anewarray 9, 3) := by decide +kernel
theorem dX1_init_10 : decode cX1_init 10 = .ok (.putfield 11, 3) := by decide +kernel
theorem dX1_init_13 : decode cX1_init 13 = .ok (.aload_n 0, 1) := by decide +kernel
theorem dX1_init_14 : decode cX1_init 14 = .ok (.iconst 0, 1) := by decide +kernel
theorem dX1_init_15 : decode cX1_init 15 = .ok (.putfield 17, 3) := by decide +kernel
theorem dX1_init_18 : decode cX1_init 18 = .ok (.aload_n 0, 1) := by decide +kernel
theorem dX1_init_19 : decode cX1_init 19 = .ok (.iconst 0, 1) := by decide +kernel
theorem dX1_init_20 : decode cX1_init 20 = .ok (.putfield 21, 3) := by decide +kernel
theorem dX1_init_23 : decode cX1_init 23 = .ok (.aload_n 0, 1) := by decide +kernel
theorem dX1_init_24 : decode cX1_init 24 = .ok (.new 9, 3) := by decide +kernel
theorem dX1_init_27 : decode cX1_init 27 = .ok (.dup, 1) := by decide +kernel
theorem dX1_init_28 : decode cX1_init 28 = .ok (.invokespecial 24, 3) := by decide +kernel
theorem dX1_init_31 : decode cX1_init 31 = .ok (.putfield 25, 3) := by decide +kernel
theorem dX1_init_34 : decode cX1_init 34 = .ok (.aload_n 0, 1) := by decide +kernel
theorem dX1_init_35 : decode cX1_init 35 = .ok (.iconst 0, 1) := by decide +kernel
theorem dX1_init_36 : decode cX1_init 36 = .ok (.putfield 29, 3) := by decide +kernel
theorem dX1_init_39 : decode cX1_init 39 = .ok (.iconst 0, 1) := by decide +kernel
theorem dX1_init_40 : decode cX1_init 40 = .ok (.istore_n 1, 1) := by decide +kernel
theorem dX1_init_41 : decode cX1_init 41 = .ok (.iload_n 1, 1) := by decide +kernel
theorem dX1_init_42 : decode cX1_init 42 = .ok (.bipush 12, 2) := by decide +kernel
theorem dX1_init_44 : decode cX1_init 44 = .ok (.if_icmp .ge 22, 3) := by decide +kernel
theorem dX1_init_47 : decode cX1_init 47 = .ok (.aload_n 0, 1) := by decide +kernel
theorem dX1_init_48 : decode cX1_init 48 = .ok (.getfield 11, 3) := by decide +kernel
theorem dX1_init_51 : decode cX1_init 51 = .ok (.iload_n 1, 1) := by decide +kernel
theorem dX1_init_52 : decode cX1_init 52 = .ok (.new 9, 3) := by decide +kernel
theorem dX1_init_55 : decode cX1_init 55 = .ok (.dup, 1) := by decide +kernel
theorem dX1_init_56 : decode cX1_init 56 = .ok (.invokespecial 24, 3) := by decide +kernel
theorem dX1_init_59 : decode cX1_init 59 = .ok (.aastore, 1) := by decide +kernel
theorem dX1_init_60 : decode cX1_init 60 = .ok (.iinc 1 1, 3) := by decide +kernel
theorem dX1_init_63 : decode cX1_init 63 = .ok (.goto (-22), 3) := by decide +kernel
theorem dX1_init_66 : decode cX1_init 66 = .ok (.return_, 1) := by decide +kernel
theorem dX1_forgetAll_0 : decode cX1_forgetAll 0 = .ok (.aload_n 0, 1) := by decide +kernel
theorem dX1_forgetAll_1 : decode cX1_forgetAll 1 = .ok (.iconst 0, 1) := by decide +kernel
theorem dX1_forgetAll_2 : decode cX1_forgetAll 2 = .ok (.putfield 21, 3) := by decide +kernel
theorem dX1_forgetAll_5 : decode cX1_forgetAll 5 = .ok (.aload_n 0, 1) := by decide +kernel
theorem dX1_forgetAll_6 : decode cX1_forgetAll 6 = .ok (.iconst 0, 1) := by decide +kernel
theorem dX1_forgetAll_7 : decode cX1_forgetAll 7 = .ok (.putfield 29, 3) := by decide +kernel
theorem dX1_forgetAll_10 : decode cX1_forgetAll 10 = .ok (.return_, 1) := by decide +kernel
theorem dX1_remember_0 : decode cX1_remember 0 = .ok (.aload_n 0, 1) := by decide +kernel
theorem dX1_remember_1 : decode cX1_remember 1 = .ok (.aload_n 0, 1) := by decide +kernel
theorem dX1_remember_2 : decode cX1_remember 2 = .ok (.getfield 17, 3) := by decide +kernel
theorem dX1_remember_5 : decode cX1_remember 5 = .ok (.iconst 1, 1) := by decide +kernel
theorem dX1_remember_6 : decode cX1_remember 6 = .ok (.iadd, 1) := by decide +kernel
theorem dX1_remember_7 : decode cX1_remember 7 = .ok (.bipush 12, 2) := by decide +kernel
theorem dX1_remember_9 : decode cX1_remember 9 = .ok (.irem, 1) := by decide +kernel
theorem dX1_remember_10 : decode cX1_remember 10 = .ok (.putfield 17, 3) := by decide +kernel
theorem dX1_remember_13 : decode cX1_remember 13 = .ok (.aload_n 0, 1) := by decide +kernel
theorem dX1_remember_14 : decode cX1_remember 14 = .ok (.getfield 11, 3) := by decide +kernel
theorem dX1_remember_17 : decode cX1_remember 17 = .ok (.aload_n 0, 1) := by decide +kernel
theorem dX1_remember_18 : decode cX1_remember 18 = .ok (.getfield 17, 3) := by decide +kernel
theorem dX1_remember_21 : decode cX1_remember 21 = .ok (.aaload, 1) := by decide +kernel
theorem dX1_remember_22 : decode cX1_remember 22 = .ok (.aload_n 1, 1) := by decide +kernel
theorem dX1_remember_23 : decode cX1_remember 23 = .ok (.invokevirtual 33, 3) := by decide +kernel
theorem dX1_remember_26 : decode cX1_remember 26 = .ok (.aload_n 0, 1) := by decide +kernel
theorem dX1_remember_27 : decode cX1_remember 27 = .ok (.aload_n 0, 1) := by decide +kernel
theorem dX1_remember_28 : decode cX1_remember 28 = .ok (.getfield 21, 3) := by decide +kernel
theorem dX1_remember_31 : decode cX1_remember 31 = .ok (.iconst 1, 1) := by decide +kernel
theorem dX1_remember_32 : decode cX1_remember 32 = .ok (.iadd, 1) := by decide +kernel
theorem dX1_remember_33 : decode cX1_remember 33 = .ok (.bipush 12, 2) := by decide +kernel
theorem dX1_remember_35 : decode cX1_remember 35 = .ok (.invokestatic 37, 3) := by decide +kernel
theorem dX1_remember_38 : decode cX1_remember 38 = .ok (.putfield 21, 3) := by decide +kernel
theorem dX1_remember_41 : decode cX1_remember 41 = .ok (.return_, 1) := by decide +kernel
theorem dX1_stepBack_0 : decode cX1_stepBack 0 = .ok (.aload_n 0, 1) := by decide +kernel
theorem dX1_stepBack_1 : decode cX1_stepBack 1 = .ok (.getfield 21, 3) := by decide +kernel
theorem dX1_stepBack_4 : decode cX1_stepBack 4 = .ok (.ifCond .ne 5, 3) := by decide +kernel
theorem dX1_stepBack_7 : decode cX1_stepBack 7 = .ok (.iconst (-1), 1) := by decide +kernel
theorem dX1_stepBack_8 : decode cX1_stepBack 8 = .ok (.ireturn, 1) := by decide +kernel
theorem dX1_stepBack_9 : decode cX1_stepBack 9 = .ok (.aload_n 1, 1) := by decide +kernel
theorem dX1_stepBack_10 : decode cX1_stepBack 10 = .ok (.aload_n 0, 1) := by decide +kernel
theorem dX1_stepBack_11 : decode cX1_stepBack 11 = .ok (.getfield 11, 3) := by decide +kernel
theorem dX1_stepBack_14 : decode cX1_stepBack 14 = .ok (.aload_n 0, 1) := by decide +kernel
theorem dX1_stepBack_15 : decode cX1_stepBack 15 = .ok (.getfield 17, 3) := by decide +kernel
theorem dX1_stepBack_18 : decode cX1_stepBack 18 = .ok (.aaload, 1) := by decide +kernel
theorem dX1_stepBack_19 : decode cX1_stepBack 19 = .ok (.invokevirtual 33, 3) := by decide +kernel
theorem dX1_stepBack_22 : decode cX1_stepBack 22 = .ok (.aload_n 0, 1) := by decide +kernel
theorem dX1_stepBack_23 : decode cX1_stepBack 23 = .ok (.aload_n 0, 1) := by decide +kernel
theorem dX1_stepBack_24 : decode cX1_stepBack 24 = .ok (.getfield 17, 3) := by decide +kernel
theorem dX1_stepBack_27 : decode cX1_stepBack 27 = .ok (.bipush 12, 2) := by decide +kernel
theorem dX1_stepBack_29 : decode cX1_stepBack 29 = .ok (.iadd, 1) := by decide +kernel
theorem dX1_stepBack_30 : decode cX1_stepBack 30 = .ok (.iconst 1, 1) := by decide +kernel
theorem dX1_stepBack_31 : decode cX1_stepBack 31 = .ok (.isub, 1) := by decide +kernel
theorem dX1_stepBack_32 : decode cX1_stepBack 32 = .ok (.bipush 12, 2) := by decide +kernel
theorem dX1_stepBack_34 : decode cX1_stepBack 34 = .ok (.irem, 1) := by decide +kernel
theorem dX1_stepBack_35 : decode cX1_stepBack 35 = .ok (.putfield 17, 3) := by decide +kernel
theorem dX1_stepBack_38 : decode cX1_stepBack 38 = .ok (.aload_n 0, 1) := by decide +kernel
theorem dX1_stepBack_39 : decode cX1_stepBack 39 = .ok (.dup, 1) := by decide +kernel
theorem dX1_stepBack_40 : decode cX1_stepBack 40 = .ok (.getfield 21, 3) := by decide +kernel
theorem dX1_stepBack_43 : decode cX1_stepBack 43 = .ok (.iconst 1, 1) := by decide +kernel
theorem dX1_stepBack_44 : decode cX1_stepBack 44 = .ok (.isub, 1) := by decide +kernel
theorem dX1_stepBack_45 : decode cX1_stepBack 45 = .ok (.putfield 21, 3) := by decide +kernel
theorem dX1_stepBack_48 : decode cX1_stepBack 48 = .ok (.aload_n 0, 1) := by decide +kernel
theorem dX1_stepBack_49 : decode cX1_stepBack 49 = .ok (.getfield 21, 3) := by decide +kernel
theorem dX1_stepBack_52 : decode cX1_stepBack 52 = .ok (.ireturn, 1) := by decide +kernel
theorem dX1_keep_0 : decode cX1_keep 0 = .ok (.aload_n 0, 1) := by decide +kernel
theorem dX1_keep_1 : decode cX1_keep 1 = .ok (.getfield 25, 3) := by decide +kernel
theorem dX1_keep_4 : decode cX1_keep 4 = .ok (.aload_n 1, 1) := by decide +kernel
theorem dX1_keep_5 : decode cX1_keep 5 = .ok (.invokevirtual 33, 3) := by decide +kernel
theorem dX1_keep_8 : decode cX1_keep 8 = .ok (.aload_n 0, 1) := by decide +kernel
theorem dX1_keep_9 : decode cX1_keep 9 = .ok (.iconst 1, 1) := by decide +kernel
theorem dX1_keep_10 : decode cX1_keep 10 = .ok (.putfield 29, 3) := by decide +kernel
theorem dX1_keep_13 : decode cX1_keep 13 = .ok (.return_, 1) := by decide +kernel
theorem dX1_bringBack_0 : decode cX1_bringBack 0 = .ok (.aload_n 1, 1) := by decide +kernel
theorem dX1_bringBack_1 : decode cX1_bringBack 1 = .ok (.aload_n 0, 1) := by decide +kernel
theorem dX1_bringBack_2 : decode cX1_bringBack 2 = .ok (.getfield 25, 3) := by decide +kernel
theorem dX1_bringBack_5 : decode cX1_bringBack 5 = .ok (.invokevirtual 33, 3) := by decide +kernel
theorem dX1_bringBack_8 : decode cX1_bringBack 8 = .ok (.aload_n 0, 1) := by decide +kernel
theorem dX1_bringBack_9 : decode cX1_bringBack 9 = .ok (.iconst 0, 1) := by decide +kernel
theorem dX1_bringBack_10 : decode cX1_bringBack 10 = .ok (.putfield 21, 3) := by decide +kernel
theorem dX1_bringBack_13 : decode cX1_bringBack 13 = .ok (.return_, 1) := by decide +kernel
theorem dX2_init_0 : decode cX2_init 0 = .ok (.aload_n 0, 1) := by decide +kernel
theorem dX2_init_1 : decode cX2_init 1 = .ok (.invokespecial 3, 3) := by decide +kernel
theorem dX2_init_4 : decode cX2_init 4 = .ok (.aload_n 0, 1) := by decide +kernel
theorem dX2_init_5 : decode cX2_init 5 = .ok (.sipush 1024, 3) := by decide +kernel
theorem dX2_init_8 : decode cX2_init 8 = .ok (.newarray .byte, 2) := by decide +kernel
theorem dX2_init_10 : decode cX2_init 10 = .ok (.putfield 9, 3) := by decide +kernel
theorem dX2_init_13 : decode cX2_init 13 = .ok (.aload_n 0, 1) := by decide +kernel
theorem dX2_init_14 : decode cX2_init 14 = .ok (.iconst 0, 1) := by decide +kernel
theorem dX2_init_15 : decode cX2_init 15 = .ok (.putfield 15, 3) := by decide +kernel
theorem dX2_init_18 : decode cX2_init 18 = .ok (.return_, 1) := by decide +kernel
theorem dX2_putByte_0 : decode cX2_putByte 0 = .ok (.aload_n 0, 1) := by decide +kernel
theorem dX2_putByte_1 : decode cX2_putByte 1 = .ok (.getfield 15, 3) := by decide +kernel
theorem dX2_putByte_4 : decode cX2_putByte 4 = .ok (.sipush 1024, 3) := by decide +kernel
theorem dX2_putByte_7 : decode cX2_putByte 7 = .ok (.if_icmp .ge 24, 3) := by decide +kernel
theorem dX2_putByte_10 : decode cX2_putByte 10 = .ok (.aload_n 0, 1) := by decide +kernel
theorem dX2_putByte_11 : decode cX2_putByte 11 = .ok (.getfield 9, 3) := by decide +kernel
theorem dX2_putByte_14 : decode cX2_putByte 14 = .ok (.aload_n 0, 1) := by decide +kernel
theorem dX2_putByte_15 : decode cX2_putByte 15 = .ok (.getfield 15, 3) := by decide +kernel
theorem dX2_putByte_18 : decode cX2_putByte 18 = .ok (.iload_n 1, 1) := by decide +kernel
theorem dX2_putByte_19 : decode cX2_putByte 19 = .ok (.i2b, 1) := by decide +kernel
theorem dX2_putByte_20 : decode cX2_putByte 20 = .ok (.bastore, 1) := by decide +kernel
theorem dX2_putByte_21 : decode cX2_putByte 21 = .ok (.aload_n 0, 1) := by decide +kernel
theorem dX2_putByte_22 : decode cX2_putByte 22 = .ok (.dup, 1) := by decide +kernel
theorem dX2_putByte_23 : decode cX2_putByte 23 = .ok (.getfield 15, 3) := by decide +kernel
theorem dX2_putByte_26 : decode cX2_putByte 26 = .ok (.iconst 1, 1) := by decide +kernel
theorem dX2_putByte_27 : decode cX2_putByte 27 = .ok (.iadd, 1) := by decide +kernel
theorem dX2_putByte_28 : decode cX2_putByte 28 = .ok (.putfield 15, 3) := by decide +kernel
theorem dX2_putByte_31 : decode cX2_putByte 31 = .ok (.return_, 1) := by decide +kernel
theorem dX2_putNumber_0 : decode cX2_putNumber 0 = .ok (.lload_n 1, 1) := by decide +kernel
theorem dX2_putNumber_1 : decode cX2_putNumber 1 = .ok (.lconst 0, 1) := by decide +kernel
theorem dX2_putNumber_2 : decode cX2_putNumber 2 = .ok (.lcmp, 1) := by decide +kernel
theorem dX2_putNumber_3 : decode cX2_putNumber 3 = .ok (.ifCond .ge 9, 3) := by decide +kernel
theorem dX2_putNumber_6 : decode cX2_putNumber 6 = .ok (.aload_n 0, 1) := by decide +kernel
theorem dX2_putNumber_7 : decode cX2_putNumber 7 = .ok (.bipush 45, 2) := by decide +kernel
theorem dX2_putNumber_9 : decode cX2_putNumber 9 = .ok (.invokevirtual 19, 3) := by decide +kernel
theorem dX2_putNumber_12 : decode cX2_putNumber 12 = .ok (.lload_n 1, 1) := by decide +kernel
theorem dX2_putNumber_13 : decode cX2_putNumber 13 = .ok (.invokestatic 23, 3) := by decide +kernel
theorem dX2_putNumber_16 : decode cX2_putNumber 16 = .ok (.lstore_n 3, 1) := by decide +kernel
theorem dX2_putNumber_17 : decode cX2_putNumber 17 = .ok (.lconst 1, 1) := by decide +kernel
theorem dX2_putNumber_18 : decode cX2_putNumber 18 = .ok (.lstore 5, 2) := by decide +kernel
theorem dX2_putNumber_20 : decode cX2_putNumber 20 = .ok (.iconst 0, 1) := by decide +kernel
theorem dX2_putNumber_21 : decode cX2_putNumber 21 = .ok (.istore 7, 2) := by decide +kernel
theorem dX2_putNumber_23 : decode cX2_putNumber 23 = .ok (.iload 7, 2) := by decide +kernel
theorem dX2_putNumber_25 : decode cX2_putNumber 25 = .ok (.bipush 18, 2) := by decide +kernel
theorem dX2_putNumber_27 : decode cX2_putNumber 27 = .ok (.if_icmp .ge 28, 3) := by decide +kernel
theorem dX2_putNumber_30 : decode cX2_putNumber 30 = .ok (.lload_n 3, 1) := by decide +kernel
theorem dX2_putNumber_31 : decode cX2_putNumber 31 = .ok (.lload 5, 2) := by decide +kernel
theorem dX2_putNumber_33 : decode cX2_putNumber 33 = .ok (.ldiv, 1) := by decide +kernel
theorem dX2_putNumber_34 : decode cX2_putNumber 34 = .ok (.ldc2_w 29, 3) := by decide +kernel
theorem dX2_putNumber_37 : decode cX2_putNumber 37 = .ok (.lcmp, 1) := by decide +kernel
theorem dX2_putNumber_38 : decode cX2_putNumber 38 = .ok (.ifCond .lt 17, 3) := by decide +kernel
theorem dX2_putNumber_41 : decode cX2_putNumber 41 = .ok (.lload 5, 2) := by decide +kernel
theorem dX2_putNumber_43 : decode cX2_putNumber 43 = .ok (.ldc2_w 29, 3) := by decide +kernel
theorem dX2_putNumber_46 : decode cX2_putNumber 46 = .ok (.lmul, 1) := by decide +kernel
theorem dX2_putNumber_47 : decode cX2_putNumber 47 = .ok (.lstore 5, 2) := by decide +kernel
theorem dX2_putNumber_49 : decode cX2_putNumber 49 = .ok (.iinc 7 1, 3) := by decide +kernel
theorem dX2_putNumber_52 : decode cX2_putNumber 52 = .ok (.goto (-29), 3) := by decide +kernel
theorem dX2_putNumber_55 : decode cX2_putNumber 55 = .ok (.iconst 0, 1) := by decide +kernel
theorem dX2_putNumber_56 : decode cX2_putNumber 56 = .ok (.istore 7, 2) := by decide +kernel
theorem dX2_putNumber_58 : decode cX2_putNumber 58 = .ok (.iload 7, 2) := by decide +kernel
theorem dX2_putNumber_60 : decode cX2_putNumber 60 = .ok (.bipush 19, 2) := by decide +kernel
theorem dX2_putNumber_62 : decode cX2_putNumber 62 = .ok (.if_icmp .ge 41, 3) := by decide +kernel
theorem dX2_putNumber_65 : decode cX2_putNumber 65 = .ok (.lload 5, 2) := by decide +kernel
theorem dX2_putNumber_67 : decode cX2_putNumber 67 = .ok (.lconst 0, 1) := by decide +kernel
theorem dX2_putNumber_68 : decode cX2_putNumber 68 = .ok (.lcmp, 1) := by decide +kernel
theorem dX2_putNumber_69 : decode cX2_putNumber 69 = .ok (.ifCond .le 34, 3) := by decide +kernel
theorem dX2_putNumber_72 : decode cX2_putNumber 72 = .ok (.aload_n 0, 1) := by decide +kernel
theorem dX2_putNumber_73 : decode cX2_putNumber 73 = .ok (.ldc2_w 31, 3) := by decide +kernel
theorem dX2_putNumber_76 : decode cX2_putNumber 76 = .ok (.lload_n 3, 1) := by decide +kernel
theorem dX2_putNumber_77 : decode cX2_putNumber 77 = .ok (.lload 5, 2) := by decide +kernel
theorem dX2_putNumber_79 : decode cX2_putNumber 79 = .ok (.ldiv, 1) := by decide +kernel
theorem dX2_putNumber_80 : decode cX2_putNumber 80 = .ok (.ldc2_w 29, 3) := by decide +kernel
theorem dX2_putNumber_83 : decode cX2_putNumber 83 = .ok (.lrem, 1) := by decide +kernel
theorem dX2_putNumber_84 : decode cX2_putNumber 84 = .ok (.ladd, 1) := by decide +kernel
theorem dX2_putNumber_85 : decode cX2_putNumber 85 = .ok (.l2i, 1) := by decide +kernel
theorem dX2_putNumber_86 : decode cX2_putNumber 86 = .ok (.invokevirtual 19, 3) := by decide +kernel
theorem dX2_putNumber_89 : decode cX2_putNumber 89 = .ok (.lload 5, 2) := by decide +kernel
theorem dX2_putNumber_91 : decode cX2_putNumber 91 = .ok (.ldc2_w 29, 3) := by decide +kernel
theorem dX2_putNumber_94 : decode cX2_putNumber 94 = .ok (.ldiv, 1) := by decide +kernel
theorem dX2_putNumber_95 : decode cX2_putNumber 95 = .ok (.lstore 5, 2) := by decide +kernel
theorem dX2_putNumber_97 : decode cX2_putNumber 97 = .ok (.iinc 7 1, 3) := by decide +kernel
theorem dX2_putNumber_100 : decode cX2_putNumber 100 = .ok (.goto (-42), 3) := by decide +kernel
theorem dX2_putNumber_103 : decode cX2_putNumber 103 = .ok (.return_, 1) := by decide +kernel
theorem dX2_putLetters_0 : decode cX2_putLetters 0 = .ok (.bipush 56, 2) := by decide +kernel
theorem dX2_putLetters_2 : decode cX2_putLetters 2 = .ok (.istore_n 3, 1) := by decide +kernel
theorem dX2_putLetters_3 : decode cX2_putLetters 3 = .ok (.iload_n 3, 1) := by decide +kernel
theorem dX2_putLetters_4 : decode cX2_putLetters 4 = .ok (.ifCond .lt 30, 3) := by decide +kernel
theorem dX2_putLetters_7 : decode cX2_putLetters 7 = .ok (.lload_n 1, 1) := by decide +kernel
theorem dX2_putLetters_8 : decode cX2_putLetters 8 = .ok (.iload_n 3, 1) := by decide +kernel
theorem dX2_putLetters_9 : decode cX2_putLetters 9 = .ok (.lshr, 1) := by decide +kernel
theorem dX2_putLetters_10 : decode cX2_putLetters 10 = .ok (.ldc2_w 33, 3) := by decide +kernel
theorem dX2_putLetters_13 : decode cX2_putLetters 13 = .ok (.land, 1) := by decide +kernel
theorem dX2_putLetters_14 : decode cX2_putLetters 14 = .ok (.l2i, 1) := by decide +kernel
theorem dX2_putLetters_15 : decode cX2_putLetters 15 = .ok (.istore 4, 2) := by decide +kernel
theorem dX2_putLetters_17 : decode cX2_putLetters 17 = .ok (.iload 4, 2) := by decide +kernel
theorem dX2_putLetters_19 : decode cX2_putLetters 19 = .ok (.ifCond .eq 9, 3) := by decide +kernel
theorem dX2_putLetters_22 : decode cX2_putLetters 22 = .ok (.aload_n 0, 1) := by decide +kernel
theorem dX2_putLetters_23 : decode cX2_putLetters 23 = .ok (.iload 4, 2) := by decide +kernel
theorem dX2_putLetters_25 : decode cX2_putLetters 25 = .ok (.invokevirtual 19, 3) := by decide +kernel
theorem dX2_putLetters_28 : decode cX2_putLetters 28 = .ok (.iinc 3 (-8), 3) := by decide +kernel
theorem dX2_putLetters_31 : decode cX2_putLetters 31 = .ok (.goto (-28), 3) := by decide +kernel
theorem dX2_putLetters_34 : decode cX2_putLetters 34 = .ok (.return_, 1) := by decide +kernel
theorem dX3_init_0 : decode cX3_init 0 = .ok (.aload_n 0, 1) := by decide +kernel
theorem dX3_init_1 : decode cX3_init 1 = .ok (.invokespecial 3, 3) := by decide +kernel
theorem dX3_init_4 : decode cX3_init 4 = .ok (.aload_n 0, 1) := by decide +kernel
theorem dX3_init_5 : decode cX3_init 5 = .ok (.lconst 0, 1) := by decide +kernel
theorem dX3_init_6 : decode cX3_init 6 = .ok (.putfield 9, 3) := by decide +kernel
theorem dX3_init_9 : decode cX3_init 9 = .ok (.aload_n 0, 1) := by decide +kernel
theorem dX3_init_10 : decode cX3_init 10 = .ok (.lconst 1, 1) := by decide +kernel
theorem dX3_init_11 : decode cX3_init 11 = .ok (.putfield 15, 3) := by decide +kernel
theorem dX3_init_14 : decode cX3_init 14 = .ok (.return_, 1) := by decide +kernel
theorem dX3_copyFrom_0 : decode cX3_copyFrom 0 = .ok (.aload_n 0, 1) := by decide +kernel
theorem dX3_copyFrom_1 : decode cX3_copyFrom 1 = .ok (.aload_n 1, 1) := by decide +kernel
theorem dX3_copyFrom_2 : decode cX3_copyFrom 2 = .ok (.getfield 9, 3) := by decide +kernel
theorem dX3_copyFrom_5 : decode cX3_copyFrom 5 = .ok (.putfield 9, 3) := by decide +kernel
theorem dX3_copyFrom_8 : decode cX3_copyFrom 8 = .ok (.aload_n 0, 1) := by decide +kernel
theorem dX3_copyFrom_9 : decode cX3_copyFrom 9 = .ok (.aload_n 1, 1) := by decide +kernel
theorem dX3_copyFrom_10 : decode cX3_copyFrom 10 = .ok (.getfield 15, 3) := by decide +kernel
theorem dX3_copyFrom_13 : decode cX3_copyFrom 13 = .ok (.putfield 15, 3) := by decide +kernel
theorem dX3_copyFrom_16 : decode cX3_copyFrom 16 = .ok (.return_, 1) := by decide +kernel
theorem dX3_setTo_0 : decode cX3_setTo 0 = .ok (.lload_n 1, 1) := by decide +kernel
theorem dX3_setTo_1 : decode cX3_setTo 1 = .ok (.invokestatic 18, 3) := by decide +kernel
theorem dX3_setTo_4 : decode cX3_setTo 4 = .ok (.lload_n 3, 1) := by decide +kernel
theorem dX3_setTo_5 : decode cX3_setTo 5 = .ok (.invokestatic 24, 3) := by decide +kernel
theorem dX3_setTo_8 : decode cX3_setTo 8 = .ok (.lstore 5, 2) := by decide +kernel
theorem dX3_setTo_10 : decode cX3_setTo 10 = .ok (.aload_n 0, 1) := by decide +kernel
theorem dX3_setTo_11 : decode cX3_setTo 11 = .ok (.lload_n 1, 1) := by decide +kernel
theorem dX3_setTo_12 : decode cX3_setTo 12 = .ok (.lload 5, 2) := by decide +kernel
theorem dX3_setTo_14 : decode cX3_setTo 14 = .ok (.ldiv, 1) := by decide +kernel
theorem dX3_setTo_15 : decode cX3_setTo 15 = .ok (.putfield 9, 3) := by decide +kernel
theorem dX3_setTo_18 : decode cX3_setTo 18 = .ok (.aload_n 0, 1) := by decide +kernel
theorem dX3_setTo_19 : decode cX3_setTo 19 = .ok (.lconst 1, 1) := by decide +kernel
theorem dX3_setTo_20 : decode cX3_setTo 20 = .ok (.lload_n 3, 1) := by decide +kernel
theorem dX3_setTo_21 : decode cX3_setTo 21 = .ok (.lload 5, 2) := by decide +kernel
theorem dX3_setTo_23 : decode cX3_setTo 23 = .ok (.ldiv, 1) := by decide +kernel
theorem dX3_setTo_24 : decode cX3_setTo 24 = .ok (.invokestatic 28, 3) := by decide +kernel
theorem dX3_setTo_27 : decode cX3_setTo 27 = .ok (.putfield 15, 3) := by decide +kernel
theorem dX3_setTo_30 : decode cX3_setTo 30 = .ok (.return_, 1) := by decide +kernel
theorem dX3_addFraction_0 : decode cX3_addFraction 0 = .ok (.aload_n 0, 1) := by decide +kernel
theorem dX3_addFraction_1 : decode cX3_addFraction 1 = .ok (.aload_n 0, 1) := by decide +kernel
theorem dX3_addFraction_2 : decode cX3_addFraction 2 = .ok (.getfield 9, 3) := by decide +kernel
theorem dX3_addFraction_5 : decode cX3_addFraction 5 = .ok (.lload_n 3, 1) := by decide +kernel
theorem dX3_addFraction_6 : decode cX3_addFraction 6 = .ok (.lmul, 1) := by decide +kernel
theorem dX3_addFraction_7 : decode cX3_addFraction 7 = .ok (.lload_n 1, 1) := by decide +kernel
theorem dX3_addFraction_8 : decode cX3_addFraction 8 = .ok (.aload_n 0, 1) := by decide +kernel
theorem dX3_addFraction_9 : decode cX3_addFraction 9 = .ok (.getfield 15, 3) := by decide +kernel
theorem dX3_addFraction_12 : decode cX3_addFraction 12 = .ok (.lmul, 1) := by decide +kernel
theorem dX3_addFraction_13 : decode cX3_addFraction 13 = .ok (.ladd, 1) := by decide +kernel
theorem dX3_addFraction_14 : decode cX3_addFraction 14 = .ok (.aload_n 0, 1) := by decide +kernel
theorem dX3_addFraction_15 : decode cX3_addFraction 15 = .ok (.getfield 15, 3) := by decide +kernel
theorem dX3_addFraction_18 : decode cX3_addFraction 18 = .ok (.lload_n 3, 1) := by decide +kernel
theorem dX3_addFraction_19 : decode cX3_addFraction 19 = .ok (.lmul, 1) := by decide +kernel
theorem dX3_addFraction_20 : decode cX3_addFraction 20 = .ok (.invokevirtual 31, 3) := by decide +kernel
theorem dX3_addFraction_23 : decode cX3_addFraction 23 = .ok (.return_, 1) := by decide +kernel
theorem dX3_arcBy_0 : decode cX3_arcBy 0 = .ok (.aload_n 0, 1) := by decide +kernel
theorem dX3_arcBy_1 : decode cX3_arcBy 1 = .ok (.getfield 9, 3) := by decide +kernel
theorem dX3_arcBy_4 : decode cX3_arcBy 4 = .ok (.invokestatic 18, 3) := by decide +kernel
theorem dX3_arcBy_7 : decode cX3_arcBy 7 = .ok (.lstore_n 2, 1) := by decide +kernel
theorem dX3_arcBy_8 : decode cX3_arcBy 8 = .ok (.lload_n 2, 1) := by decide +kernel
theorem dX3_arcBy_9 : decode cX3_arcBy 9 = .ok (.aload_n 0, 1) := by decide +kernel
theorem dX3_arcBy_10 : decode cX3_arcBy 10 = .ok (.getfield 15, 3) := by decide +kernel
theorem dX3_arcBy_13 : decode cX3_arcBy 13 = .ok (.lrem, 1) := by decide +kernel
theorem dX3_arcBy_14 : decode cX3_arcBy 14 = .ok (.lstore 4, 2) := by decide +kernel
theorem dX3_arcBy_16 : decode cX3_arcBy 16 = .ok (.iload_n 1, 1) := by decide +kernel
theorem dX3_arcBy_17 : decode cX3_arcBy 17 = .ok (.i2l, 1) := by decide +kernel
theorem dX3_arcBy_18 : decode cX3_arcBy 18 = .ok (.ldc2_w 35, 3) := by decide +kernel
theorem dX3_arcBy_21 : decode cX3_arcBy 21 = .ok (.lmul, 1) := by decide +kernel
theorem dX3_arcBy_22 : decode cX3_arcBy 22 = .ok (.lstore 6, 2) := by decide +kernel
theorem dX3_arcBy_24 : decode cX3_arcBy 24 = .ok (.lconst 0, 1) := by decide +kernel
theorem dX3_arcBy_25 : decode cX3_arcBy 25 = .ok (.lstore 8, 2) := by decide +kernel
theorem dX3_arcBy_27 : decode cX3_arcBy 27 = .ok (.lconst 0, 1) := by decide +kernel
theorem dX3_arcBy_28 : decode cX3_arcBy 28 = .ok (.lstore 10, 2) := by decide +kernel
theorem dX3_arcBy_30 : decode cX3_arcBy 30 = .ok (.bipush 36, 2) := by decide +kernel
theorem dX3_arcBy_32 : decode cX3_arcBy 32 = .ok (.istore 12, 2) := by decide +kernel
theorem dX3_arcBy_34 : decode cX3_arcBy 34 = .ok (.iload 12, 2) := by decide +kernel
theorem dX3_arcBy_36 : decode cX3_arcBy 36 = .ok (.ifCond .lt 55, 3) := by decide +kernel
theorem dX3_arcBy_39 : decode cX3_arcBy 39 = .ok (.lload 10, 2) := by decide +kernel
theorem dX3_arcBy_41 : decode cX3_arcBy 41 = .ok (.ldc2_w 37, 3) := by decide +kernel
theorem dX3_arcBy_44 : decode cX3_arcBy 44 = .ok (.lmul, 1) := by decide +kernel
theorem dX3_arcBy_45 : decode cX3_arcBy 45 = .ok (.lload 4, 2) := by decide +kernel
theorem dX3_arcBy_47 : decode cX3_arcBy 47 = .ok (.lload 6, 2) := by decide +kernel
theorem dX3_arcBy_49 : decode cX3_arcBy 49 = .ok (.iload 12, 2) := by decide +kernel
theorem dX3_arcBy_51 : decode cX3_arcBy 51 = .ok (.lshr, 1) := by decide +kernel
theorem dX3_arcBy_52 : decode cX3_arcBy 52 = .ok (.ldc2_w 39, 3) := by decide +kernel
theorem dX3_arcBy_55 : decode cX3_arcBy 55 = .ok (.land, 1) := by decide +kernel
theorem dX3_arcBy_56 : decode cX3_arcBy 56 = .ok (.lmul, 1) := by decide +kernel
theorem dX3_arcBy_57 : decode cX3_arcBy 57 = .ok (.ladd, 1) := by decide +kernel
theorem dX3_arcBy_58 : decode cX3_arcBy 58 = .ok (.lstore 10, 2) := by decide +kernel
theorem dX3_arcBy_60 : decode cX3_arcBy 60 = .ok (.lload 8, 2) := by decide +kernel
theorem dX3_arcBy_62 : decode cX3_arcBy 62 = .ok (.ldc2_w 37, 3) := by decide +kernel
theorem dX3_arcBy_65 : decode cX3_arcBy 65 = .ok (.lmul, 1) := by decide +kernel
theorem dX3_arcBy_66 : decode cX3_arcBy 66 = .ok (.lload 10, 2) := by decide +kernel
theorem dX3_arcBy_68 : decode cX3_arcBy 68 = .ok (.aload_n 0, 1) := by decide +kernel
theorem dX3_arcBy_69 : decode cX3_arcBy 69 = .ok (.getfield 15, 3) := by decide +kernel
theorem dX3_arcBy_72 : decode cX3_arcBy 72 = .ok (.ldiv, 1) := by decide +kernel
theorem dX3_arcBy_73 : decode cX3_arcBy 73 = .ok (.ladd, 1) := by decide +kernel
theorem dX3_arcBy_74 : decode cX3_arcBy 74 = .ok (.lstore 8, 2) := by decide +kernel
theorem dX3_arcBy_76 : decode cX3_arcBy 76 = .ok (.lload 10, 2) := by decide +kernel
theorem dX3_arcBy_78 : decode cX3_arcBy 78 = .ok (.aload_n 0, 1) := by decide +kernel
theorem dX3_arcBy_79 : decode cX3_arcBy 79 = .ok (.getfield 15, 3) := by decide +kernel
theorem dX3_arcBy_82 : decode cX3_arcBy 82 = .ok (.lrem, 1) := by decide +kernel
theorem dX3_arcBy_83 : decode cX3_arcBy 83 = .ok (.lstore 10, 2) := by decide +kernel
theorem dX3_arcBy_85 : decode cX3_arcBy 85 = .ok (.iinc 12 (-12), 3) := by decide +kernel
theorem dX3_arcBy_88 : decode cX3_arcBy 88 = .ok (.goto (-54), 3) := by decide +kernel
theorem dX3_arcBy_91 : decode cX3_arcBy 91 = .ok (.lload_n 2, 1) := by decide +kernel
theorem dX3_arcBy_92 : decode cX3_arcBy 92 = .ok (.aload_n 0, 1) := by decide +kernel
theorem dX3_arcBy_93 : decode cX3_arcBy 93 = .ok (.getfield 15, 3) := by decide +kernel
theorem dX3_arcBy_96 : decode cX3_arcBy 96 = .ok (.ldiv, 1) := by decide +kernel
theorem dX3_arcBy_97 : decode cX3_arcBy 97 = .ok (.lload 6, 2) := by decide +kernel
theorem dX3_arcBy_99 : decode cX3_arcBy 99 = .ok (.lmul, 1) := by decide +kernel
theorem dX3_arcBy_100 : decode cX3_arcBy 100 = .ok (.lload 8, 2) := by decide +kernel
theorem dX3_arcBy_102 : decode cX3_arcBy 102 = .ok (.ladd, 1) := by decide +kernel
theorem dX3_arcBy_103 : decode cX3_arcBy 103 = .ok (.lstore 12, 2) := by decide +kernel
theorem dX3_arcBy_105 : decode cX3_arcBy 105 = .ok (.aload_n 0, 1) := by decide +kernel
theorem dX3_arcBy_106 : decode cX3_arcBy 106 = .ok (.getfield 9, 3) := by decide +kernel
theorem dX3_arcBy_109 : decode cX3_arcBy 109 = .ok (.lconst 0, 1) := by decide +kernel
theorem dX3_arcBy_110 : decode cX3_arcBy 110 = .ok (.lcmp, 1) := by decide +kernel
theorem dX3_arcBy_111 : decode cX3_arcBy 111 = .ok (.ifCond .ge 9, 3) := by decide +kernel
theorem dX3_arcBy_114 : decode cX3_arcBy 114 = .ok (.lload 12, 2) := by decide +kernel
theorem dX3_arcBy_116 : decode cX3_arcBy 116 = .ok (.lneg, 1) := by decide +kernel
theorem dX3_arcBy_117 : decode cX3_arcBy 117 = .ok (.goto 5, 3) := by decide +kernel
theorem dX3_arcBy_120 : decode cX3_arcBy 120 = .ok (.lload 12, 2) := by decide +kernel
theorem dX3_arcBy_122 : decode cX3_arcBy 122 = .ok (.lreturn, 1) := by decide +kernel
theorem dX3_wholeTurnsBy_0 : decode cX3_wholeTurnsBy 0 = .ok (.aload_n 0, 1) := by decide +kernel
theorem dX3_wholeTurnsBy_1 : decode cX3_wholeTurnsBy 1 = .ok (.getfield 9, 3) := by decide +kernel
theorem dX3_wholeTurnsBy_4 : decode cX3_wholeTurnsBy 4 = .ok (.iload_n 1, 1) := by decide +kernel
theorem dX3_wholeTurnsBy_5 : decode cX3_wholeTurnsBy 5 = .ok (.i2l, 1) := by decide +kernel
theorem dX3_wholeTurnsBy_6 : decode cX3_wholeTurnsBy 6 = .ok (.lmul, 1) := by decide +kernel
theorem dX3_wholeTurnsBy_7 : decode cX3_wholeTurnsBy 7 = .ok (.aload_n 0, 1) := by decide +kernel
theorem dX3_wholeTurnsBy_8 : decode cX3_wholeTurnsBy 8 = .ok (.getfield 15, 3) := by decide +kernel
theorem dX3_wholeTurnsBy_11 : decode cX3_wholeTurnsBy 11 = .ok (.invokestatic 41, 3) := by decide +kernel
theorem dX3_wholeTurnsBy_14 : decode cX3_wholeTurnsBy 14 = .ok (.lreturn, 1) := by decide +kernel
theorem dX3_angleBy_0 : decode cX3_angleBy 0 = .ok (.aload_n 0, 1) := by decide +kernel
theorem dX3_angleBy_1 : decode cX3_angleBy 1 = .ok (.getfield 9, 3) := by decide +kernel
theorem dX3_angleBy_4 : decode cX3_angleBy 4 = .ok (.iload_n 1, 1) := by decide +kernel
theorem dX3_angleBy_5 : decode cX3_angleBy 5 = .ok (.i2l, 1) := by decide +kernel
theorem dX3_angleBy_6 : decode cX3_angleBy 6 = .ok (.lmul, 1) := by decide +kernel
theorem dX3_angleBy_7 : decode cX3_angleBy 7 = .ok (.aload_n 0, 1) := by decide +kernel
theorem dX3_angleBy_8 : decode cX3_angleBy 8 = .ok (.getfield 15, 3) := by decide +kernel
theorem dX3_angleBy_11 : decode cX3_angleBy 11 = .ok (.invokestatic 44, 3) := by decide +kernel
theorem dX3_angleBy_14 : decode cX3_angleBy 14 = .ok (.ldc2_w 35, 3) := by decide +kernel
theorem dX3_angleBy_17 : decode cX3_angleBy 17 = .ok (.lmul, 1) := by decide +kernel
theorem dX3_angleBy_18 : decode cX3_angleBy 18 = .ok (.aload_n 0, 1) := by decide +kernel
theorem dX3_angleBy_19 : decode cX3_angleBy 19 = .ok (.getfield 15, 3) := by decide +kernel
theorem dX3_angleBy_22 : decode cX3_angleBy 22 = .ok (.ldiv, 1) := by decide +kernel
theorem dX3_angleBy_23 : decode cX3_angleBy 23 = .ok (.l2i, 1) := by decide +kernel
theorem dX3_angleBy_24 : decode cX3_angleBy 24 = .ok (.ireturn, 1) := by decide +kernel
theorem dX3_drumBy_0 : decode cX3_drumBy 0 = .ok (.aload_n 0, 1) := by decide +kernel
theorem dX3_drumBy_1 : decode cX3_drumBy 1 = .ok (.iload_n 1, 1) := by decide +kernel
theorem dX3_drumBy_2 : decode cX3_drumBy 2 = .ok (.invokevirtual 47, 3) := by decide +kernel
theorem dX3_drumBy_5 : decode cX3_drumBy 5 = .ok (.ldc2_w 35, 3) := by decide +kernel
theorem dX3_drumBy_8 : decode cX3_drumBy 8 = .ok (.lmul, 1) := by decide +kernel
theorem dX3_drumBy_9 : decode cX3_drumBy 9 = .ok (.aload_n 0, 1) := by decide +kernel
theorem dX3_drumBy_10 : decode cX3_drumBy 10 = .ok (.iload_n 1, 1) := by decide +kernel
theorem dX3_drumBy_11 : decode cX3_drumBy 11 = .ok (.invokevirtual 51, 3) := by decide +kernel
theorem dX3_drumBy_14 : decode cX3_drumBy 14 = .ok (.i2l, 1) := by decide +kernel
theorem dX3_drumBy_15 : decode cX3_drumBy 15 = .ok (.ladd, 1) := by decide +kernel
theorem dX3_drumBy_16 : decode cX3_drumBy 16 = .ok (.lreturn, 1) := by decide +kernel
theorem dX3_commonDivisor_0 : decode cX3_commonDivisor 0 = .ok (.lload_n 0, 1) := by decide +kernel
theorem dX3_commonDivisor_1 : decode cX3_commonDivisor 1 = .ok (.lstore 4, 2) := by decide +kernel
theorem dX3_commonDivisor_3 : decode cX3_commonDivisor 3 = .ok (.lload_n 2, 1) := by decide +kernel
theorem dX3_commonDivisor_4 : decode cX3_commonDivisor 4 = .ok (.lstore 6, 2) := by decide +kernel
theorem dX3_commonDivisor_6 : decode cX3_commonDivisor 6 = .ok (.iconst 0, 1) := by decide +kernel
theorem dX3_commonDivisor_7 : decode cX3_commonDivisor 7 = .ok (.istore 8, 2) := by decide +kernel
theorem dX3_commonDivisor_9 : decode cX3_commonDivisor 9 = .ok (.iload 8, 2) := by decide +kernel
theorem dX3_commonDivisor_11 : decode cX3_commonDivisor 11 = .ok (.sipush 200, 3) := by decide +kernel
theorem dX3_commonDivisor_14 : decode cX3_commonDivisor 14 = .ok (.if_icmp .ge 31, 3) := by decide +kernel
theorem dX3_commonDivisor_17 : decode cX3_commonDivisor 17 = .ok (.lload 6, 2) := by decide +kernel
theorem dX3_commonDivisor_19 : decode cX3_commonDivisor 19 = .ok (.lconst 0, 1) := by decide +kernel
theorem dX3_commonDivisor_20 : decode cX3_commonDivisor 20 = .ok (.lcmp, 1) := by decide +kernel
theorem dX3_commonDivisor_21 : decode cX3_commonDivisor 21 = .ok (.ifCond .eq 24, 3) := by decide +kernel
theorem dX3_commonDivisor_24 : decode cX3_commonDivisor 24 = .ok (.lload 4, 2) := by decide +kernel
theorem dX3_commonDivisor_26 : decode cX3_commonDivisor 26 = .ok (.lload 6, 2) := by decide +kernel
theorem dX3_commonDivisor_28 : decode cX3_commonDivisor 28 = .ok (.lrem, 1) := by decide +kernel
theorem dX3_commonDivisor_29 : decode cX3_commonDivisor 29 = .ok (.lstore 9, 2) := by decide +kernel
theorem dX3_commonDivisor_31 : decode cX3_commonDivisor 31 = .ok (.lload 6, 2) := by decide +kernel
theorem dX3_commonDivisor_33 : decode cX3_commonDivisor 33 = .ok (.lstore 4, 2) := by decide +kernel
theorem dX3_commonDivisor_35 : decode cX3_commonDivisor 35 = .ok (.lload 9, 2) := by decide +kernel
theorem dX3_commonDivisor_37 : decode cX3_commonDivisor 37 = .ok (.lstore 6, 2) := by decide +kernel
theorem dX3_commonDivisor_39 : decode cX3_commonDivisor 39 = .ok (.iinc 8 1, 3) := by decide +kernel
theorem dX3_commonDivisor_42 : decode cX3_commonDivisor 42 = .ok (.goto (-33), 3) := by decide +kernel
theorem dX3_commonDivisor_45 : decode cX3_commonDivisor 45 = .ok (.lload 4, 2) := by decide +kernel
theorem dX3_commonDivisor_47 : decode cX3_commonDivisor 47 = .ok (.lconst 0, 1) := by decide +kernel
theorem dX3_commonDivisor_48 : decode cX3_commonDivisor 48 = .ok (.lcmp, 1) := by decide +kernel
theorem dX3_commonDivisor_49 : decode cX3_commonDivisor 49 = .ok (.ifCond .le 8, 3) := by decide +kernel
theorem dX3_commonDivisor_52 : decode cX3_commonDivisor 52 = .ok (.lload 4, 2) := by decide +kernel
theorem dX3_commonDivisor_54 : decode cX3_commonDivisor 54 = .ok (.goto 4, 3) := by decide +kernel
theorem dX3_commonDivisor_57 : decode cX3_commonDivisor 57 = .ok (.lconst 1, 1) := by decide +kernel
theorem dX3_commonDivisor_58 : decode cX3_commonDivisor 58 = .ok (.lreturn, 1) := by decide +kernel
theorem dX3_order_0 : decode cX3_order 0 = .ok (.lload_n 0, 1) := by decide +kernel
theorem dX3_order_1 : decode cX3_order 1 = .ok (.lstore 8, 2) := by decide +kernel
theorem dX3_order_3 : decode cX3_order 3 = .ok (.lload_n 2, 1) := by decide +kernel
theorem dX3_order_4 : decode cX3_order 4 = .ok (.lstore 10, 2) := by decide +kernel
theorem dX3_order_6 : decode cX3_order 6 = .ok (.lload 4, 2) := by decide +kernel
theorem dX3_order_8 : decode cX3_order 8 = .ok (.lstore 12, 2) := by decide +kernel
theorem dX3_order_10 : decode cX3_order 10 = .ok (.lload 6, 2) := by decide +kernel
theorem dX3_order_12 : decode cX3_order 12 = .ok (.lstore 14, 2) := by decide +kernel
theorem dX3_order_14 : decode cX3_order 14 = .ok (.iconst 0, 1) := by decide +kernel
theorem dX3_order_15 : decode cX3_order 15 = .ok (.istore 16, 2) := by decide +kernel
theorem dX3_order_17 : decode cX3_order 17 = .ok (.iload 16, 2) := by decide +kernel
theorem dX3_order_19 : decode cX3_order 19 = .ok (.sipush 200, 3) := by decide +kernel
theorem dX3_order_22 : decode cX3_order 22 = .ok (.if_icmp .ge 98, 3) := by decide +kernel
theorem dX3_order_25 : decode cX3_order 25 = .ok (.lload 10, 2) := by decide +kernel
theorem dX3_order_27 : decode cX3_order 27 = .ok (.lconst 0, 1) := by decide +kernel
theorem dX3_order_28 : decode cX3_order 28 = .ok (.lcmp, 1) := by decide +kernel
theorem dX3_order_29 : decode cX3_order 29 = .ok (.ifCond .le 91, 3) := by decide +kernel
theorem dX3_order_32 : decode cX3_order 32 = .ok (.lload 14, 2) := by decide +kernel
theorem dX3_order_34 : decode cX3_order 34 = .ok (.lconst 0, 1) := by decide +kernel
theorem dX3_order_35 : decode cX3_order 35 = .ok (.lcmp, 1) := by decide +kernel
theorem dX3_order_36 : decode cX3_order 36 = .ok (.ifCond .le 84, 3) := by decide +kernel
theorem dX3_order_39 : decode cX3_order 39 = .ok (.lload 8, 2) := by decide +kernel
theorem dX3_order_41 : decode cX3_order 41 = .ok (.lload 10, 2) := by decide +kernel
theorem dX3_order_43 : decode cX3_order 43 = .ok (.ldiv, 1) := by decide +kernel
theorem dX3_order_44 : decode cX3_order 44 = .ok (.lload 12, 2) := by decide +kernel
theorem dX3_order_46 : decode cX3_order 46 = .ok (.lload 14, 2) := by decide +kernel
theorem dX3_order_48 : decode cX3_order 48 = .ok (.ldiv, 1) := by decide +kernel
theorem dX3_order_49 : decode cX3_order 49 = .ok (.invokestatic 55, 3) := by decide +kernel
theorem dX3_order_52 : decode cX3_order 52 = .ok (.istore 17, 2) := by decide +kernel
theorem dX3_order_54 : decode cX3_order 54 = .ok (.iload 17, 2) := by decide +kernel
theorem dX3_order_56 : decode cX3_order 56 = .ok (.ifCond .eq 6, 3) := by decide +kernel
theorem dX3_order_59 : decode cX3_order 59 = .ok (.iload 17, 2) := by decide +kernel
theorem dX3_order_61 : decode cX3_order 61 = .ok (.ireturn, 1) := by decide +kernel
theorem dX3_order_62 : decode cX3_order 62 = .ok (.lload 8, 2) := by decide +kernel
theorem dX3_order_64 : decode cX3_order 64 = .ok (.lload 10, 2) := by decide +kernel
theorem dX3_order_66 : decode cX3_order 66 = .ok (.lrem, 1) := by decide +kernel
theorem dX3_order_67 : decode cX3_order 67 = .ok (.lstore 18, 2) := by decide +kernel
theorem dX3_order_69 : decode cX3_order 69 = .ok (.lload 12, 2) := by decide +kernel
theorem dX3_order_71 : decode cX3_order 71 = .ok (.lload 14, 2) := by decide +kernel
theorem dX3_order_73 : decode cX3_order 73 = .ok (.lrem, 1) := by decide +kernel
theorem dX3_order_74 : decode cX3_order 74 = .ok (.lstore 20, 2) := by decide +kernel
theorem dX3_order_76 : decode cX3_order 76 = .ok (.lload 18, 2) := by decide +kernel
theorem dX3_order_78 : decode cX3_order 78 = .ok (.lconst 0, 1) := by decide +kernel
theorem dX3_order_79 : decode cX3_order 79 = .ok (.lcmp, 1) := by decide +kernel
theorem dX3_order_80 : decode cX3_order 80 = .ok (.ifCond .eq 10, 3) := by decide +kernel
theorem dX3_order_83 : decode cX3_order 83 = .ok (.lload 20, 2) := by decide +kernel
theorem dX3_order_85 : decode cX3_order 85 = .ok (.lconst 0, 1) := by decide +kernel
theorem dX3_order_86 : decode cX3_order 86 = .ok (.lcmp, 1) := by decide +kernel
theorem dX3_order_87 : decode cX3_order 87 = .ok (.ifCond .ne 11, 3) := by decide +kernel
theorem dX3_order_90 : decode cX3_order 90 = .ok (.lload 18, 2) := by decide +kernel
theorem dX3_order_92 : decode cX3_order 92 = .ok (.lload 20, 2) := by decide +kernel
theorem dX3_order_94 : decode cX3_order 94 = .ok (.invokestatic 55, 3) := by decide +kernel
theorem dX3_order_97 : decode cX3_order 97 = .ok (.ireturn, 1) := by decide +kernel
theorem dX3_order_98 : decode cX3_order 98 = .ok (.lload 14, 2) := by decide +kernel
theorem dX3_order_100 : decode cX3_order 100 = .ok (.lstore 8, 2) := by decide +kernel
theorem dX3_order_102 : decode cX3_order 102 = .ok (.lload 10, 2) := by decide +kernel
theorem dX3_order_104 : decode cX3_order 104 = .ok (.lstore 12, 2) := by decide +kernel
theorem dX3_order_106 : decode cX3_order 106 = .ok (.lload 20, 2) := by decide +kernel
theorem dX3_order_108 : decode cX3_order 108 = .ok (.lstore 10, 2) := by decide +kernel
theorem dX3_order_110 : decode cX3_order 110 = .ok (.lload 18, 2) := by decide +kernel
theorem dX3_order_112 : decode cX3_order 112 = .ok (.lstore 14, 2) := by decide +kernel
theorem dX3_order_114 : decode cX3_order 114 = .ok (.iinc 16 1, 3) := by decide +kernel
theorem dX3_order_117 : decode cX3_order 117 = .ok (.goto (-100), 3) := by decide +kernel
theorem dX3_order_120 : decode cX3_order 120 = .ok (.iconst 0, 1) := by decide +kernel
theorem dX3_order_121 : decode cX3_order 121 = .ok (.ireturn, 1) := by decide +kernel
theorem dX4_init_0 : decode cX4_init 0 = .ok (.aload_n 0, 1) := by decide +kernel
theorem dX4_init_1 : decode cX4_init 1 = .ok (.invokespecial 3, 3) := by decide +kernel
theorem dX4_init_4 : decode cX4_init 4 = .ok (.aload_n 0, 1) := by decide +kernel
theorem dX4_init_5 : decode cX4_init 5 = .ok (.sipush 2000, 3) := by decide +kernel
theorem dX4_init_8 : decode cX4_init 8 = .ok (.putfield 9, 3) := by decide +kernel
theorem dX4_init_11 : decode cX4_init 11 = .ok (.aload_n 0, 1) := by decide +kernel
theorem dX4_init_12 : decode cX4_init 12 = .ok (.iconst 0, 1) := by decide +kernel
theorem dX4_init_13 : decode cX4_init 13 = .ok (.putfield 15, 3) := by decide +kernel
theorem dX4_init_16 : decode cX4_init 16 = .ok (.aload_n 0, 1) := by decide +kernel
theorem dX4_init_17 : decode cX4_init 17 = .ok (.bipush 8, 2) := by decide +kernel
theorem dX4_init_19 : decode cX4_init 19 = .ok (.newarray .long, 2) := by decide +kernel
theorem dX4_init_21 : decode cX4_init 21 = .ok (.putfield 18, 3) := by decide +kernel
theorem dX4_init_24 : decode cX4_init 24 = .ok (.aload_n 0, 1) := by decide +kernel
theorem dX4_init_25 : decode cX4_init 25 = .ok (.bipush 8, 2) := by decide +kernel
theorem dX4_init_27 : decode cX4_init 27 = .ok (.newarray .int, 2) := by decide +kernel
theorem dX4_init_29 : decode cX4_init 29 = .ok (.putfield 22, 3) := by decide +kernel
theorem dX4_init_32 : decode cX4_init 32 = .ok (.aload_n 0, 1) := by decide +kernel
theorem dX4_init_33 : decode cX4_init 33 = .ok (.bipush 8, 2) := by decide +kernel
theorem dX4_init_35 : decode cX4_init 35 = .ok (.newarray .boolean, 2) := by decide +kernel
theorem dX4_init_37 : decode cX4_init 37 = .ok (.putfield 26, 3) := by decide +kernel
theorem dX4_init_40 : decode cX4_init 40 = .ok (.aload_n 0, 1) := by decide +kernel
theorem dX4_init_41 : decode cX4_init 41 = .ok (.bipush 8, 2) := by decide +kernel
theorem dX4_init_43 : decode cX4_init 43 = .ok (.newarray .int, 2) := by decide +kernel
theorem dX4_init_45 : decode cX4_init 45 = .ok (.putfield 30, 3) := by decide +kernel
theorem dX4_init_48 : decode cX4_init 48 = .ok (.return_, 1) := by decide +kernel
theorem dX4_clearAll_0 : decode cX4_clearAll 0 = .ok (.aload_n 0, 1) := by decide +kernel
theorem dX4_clearAll_1 : decode cX4_clearAll 1 = .ok (.sipush 2000, 3) := by decide +kernel
theorem dX4_clearAll_4 : decode cX4_clearAll 4 = .ok (.putfield 9, 3) := by decide +kernel
theorem dX4_clearAll_7 : decode cX4_clearAll 7 = .ok (.aload_n 0, 1) := by decide +kernel
theorem dX4_clearAll_8 : decode cX4_clearAll 8 = .ok (.iconst 0, 1) := by decide +kernel
theorem dX4_clearAll_9 : decode cX4_clearAll 9 = .ok (.putfield 15, 3) := by decide +kernel
theorem dX4_clearAll_12 : decode cX4_clearAll 12 = .ok (.return_, 1) := by decide +kernel
theorem dX4_copyFrom_0 : decode cX4_copyFrom 0 = .ok (.aload_n 0, 1) := by decide +kernel
theorem dX4_copyFrom_1 : decode cX4_copyFrom 1 = .ok (.aload_n 1, 1) := by decide +kernel
theorem dX4_copyFrom_2 : decode cX4_copyFrom 2 = .ok (.getfield 9, 3) := by decide +kernel
theorem dX4_copyFrom_5 : decode cX4_copyFrom 5 = .ok (.putfield 9, 3) := by decide +kernel
theorem dX4_copyFrom_8 : decode cX4_copyFrom 8 = .ok (.aload_n 0, 1) := by decide +kernel
theorem dX4_copyFrom_9 : decode cX4_copyFrom 9 = .ok (.aload_n 1, 1) := by decide +kernel
theorem dX4_copyFrom_10 : decode cX4_copyFrom 10 = .ok (.getfield 15, 3) := by decide +kernel
theorem dX4_copyFrom_13 : decode cX4_copyFrom 13 = .ok (.putfield 15, 3) := by decide +kernel
theorem dX4_copyFrom_16 : decode cX4_copyFrom 16 = .ok (.aload_n 1, 1) := by decide +kernel
theorem dX4_copyFrom_17 : decode cX4_copyFrom 17 = .ok (.getfield 18, 3) := by decide +kernel
theorem dX4_copyFrom_20 : decode cX4_copyFrom 20 = .ok (.iconst 0, 1) := by decide +kernel
theorem dX4_copyFrom_21 : decode cX4_copyFrom 21 = .ok (.aload_n 0, 1) := by decide +kernel
theorem dX4_copyFrom_22 : decode cX4_copyFrom 22 = .ok (.getfield 18, 3) := by decide +kernel
theorem dX4_copyFrom_25 : decode cX4_copyFrom 25 = .ok (.iconst 0, 1) := by decide +kernel
theorem dX4_copyFrom_26 : decode cX4_copyFrom 26 = .ok (.bipush 8, 2) := by decide +kernel
theorem dX4_copyFrom_28 : decode cX4_copyFrom 28 = .ok (.invokestatic 33, 3) := by decide +kernel
theorem dX4_copyFrom_31 : decode cX4_copyFrom 31 = .ok (.aload_n 1, 1) := by decide +kernel
theorem dX4_copyFrom_32 : decode cX4_copyFrom 32 = .ok (.getfield 22, 3) := by decide +kernel
theorem dX4_copyFrom_35 : decode cX4_copyFrom 35 = .ok (.iconst 0, 1) := by decide +kernel
theorem dX4_copyFrom_36 : decode cX4_copyFrom 36 = .ok (.aload_n 0, 1) := by decide +kernel
theorem dX4_copyFrom_37 : decode cX4_copyFrom 37 = .ok (.getfield 22, 3) := by decide +kernel
theorem dX4_copyFrom_40 : decode cX4_copyFrom 40 = .ok (.iconst 0, 1) := by decide +kernel
theorem dX4_copyFrom_41 : decode cX4_copyFrom 41 = .ok (.bipush 8, 2) := by decide +kernel
theorem dX4_copyFrom_43 : decode cX4_copyFrom 43 = .ok (.invokestatic 33, 3) := by decide +kernel
theorem dX4_copyFrom_46 : decode cX4_copyFrom 46 = .ok (.aload_n 1, 1) := by decide +kernel
theorem dX4_copyFrom_47 : decode cX4_copyFrom 47 = .ok (.getfield 26, 3) := by decide +kernel
theorem dX4_copyFrom_50 : decode cX4_copyFrom 50 = .ok (.iconst 0, 1) := by decide +kernel
theorem dX4_copyFrom_51 : decode cX4_copyFrom 51 = .ok (.aload_n 0, 1) := by decide +kernel
theorem dX4_copyFrom_52 : decode cX4_copyFrom 52 = .ok (.getfield 26, 3) := by decide +kernel
theorem dX4_copyFrom_55 : decode cX4_copyFrom 55 = .ok (.iconst 0, 1) := by decide +kernel
theorem dX4_copyFrom_56 : decode cX4_copyFrom 56 = .ok (.bipush 8, 2) := by decide +kernel
theorem dX4_copyFrom_58 : decode cX4_copyFrom 58 = .ok (.invokestatic 33, 3) := by decide +kernel
theorem dX4_copyFrom_61 : decode cX4_copyFrom 61 = .ok (.aload_n 1, 1) := by decide +kernel
theorem dX4_copyFrom_62 : decode cX4_copyFrom 62 = .ok (.getfield 30, 3) := by decide +kernel
theorem dX4_copyFrom_65 : decode cX4_copyFrom 65 = .ok (.iconst 0, 1) := by decide +kernel
theorem dX4_copyFrom_66 : decode cX4_copyFrom 66 = .ok (.aload_n 0, 1) := by decide +kernel
theorem dX4_copyFrom_67 : decode cX4_copyFrom 67 = .ok (.getfield 30, 3) := by decide +kernel
theorem dX4_copyFrom_70 : decode cX4_copyFrom 70 = .ok (.iconst 0, 1) := by decide +kernel
theorem dX4_copyFrom_71 : decode cX4_copyFrom 71 = .ok (.bipush 8, 2) := by decide +kernel
theorem dX4_copyFrom_73 : decode cX4_copyFrom 73 = .ok (.invokestatic 33, 3) := by decide +kernel
theorem dX4_copyFrom_76 : decode cX4_copyFrom 76 = .ok (.return_, 1) := by decide +kernel
theorem dX4_takeBody_0 : decode cX4_takeBody 0 = .ok (.aload_n 0, 1) := by decide +kernel
theorem dX4_takeBody_1 : decode cX4_takeBody 1 = .ok (.getfield 15, 3) := by decide +kernel
theorem dX4_takeBody_4 : decode cX4_takeBody 4 = .ok (.bipush 8, 2) := by decide +kernel
theorem dX4_takeBody_6 : decode cX4_takeBody 6 = .ok (.if_icmp .ge 55, 3) := by decide +kernel
theorem dX4_takeBody_9 : decode cX4_takeBody 9 = .ok (.aload_n 0, 1) := by decide +kernel
theorem dX4_takeBody_10 : decode cX4_takeBody 10 = .ok (.getfield 18, 3) := by decide +kernel
theorem dX4_takeBody_13 : decode cX4_takeBody 13 = .ok (.aload_n 0, 1) := by decide +kernel
theorem dX4_takeBody_14 : decode cX4_takeBody 14 = .ok (.getfield 15, 3) := by decide +kernel
theorem dX4_takeBody_17 : decode cX4_takeBody 17 = .ok (.lload_n 1, 1) := by decide +kernel
theorem dX4_takeBody_18 : decode cX4_takeBody 18 = .ok (.lastore, 1) := by decide +kernel
theorem dX4_takeBody_19 : decode cX4_takeBody 19 = .ok (.aload_n 0, 1) := by decide +kernel
theorem dX4_takeBody_20 : decode cX4_takeBody 20 = .ok (.getfield 22, 3) := by decide +kernel
theorem dX4_takeBody_23 : decode cX4_takeBody 23 = .ok (.aload_n 0, 1) := by decide +kernel
theorem dX4_takeBody_24 : decode cX4_takeBody 24 = .ok (.getfield 15, 3) := by decide +kernel
theorem dX4_takeBody_27 : decode cX4_takeBody 27 = .ok (.iload_n 3, 1) := by decide +kernel
theorem dX4_takeBody_28 : decode cX4_takeBody 28 = .ok (.iastore, 1) := by decide +kernel
theorem dX4_takeBody_29 : decode cX4_takeBody 29 = .ok (.aload_n 0, 1) := by decide +kernel
theorem dX4_takeBody_30 : decode cX4_takeBody 30 = .ok (.getfield 26, 3) := by decide +kernel
theorem dX4_takeBody_33 : decode cX4_takeBody 33 = .ok (.aload_n 0, 1) := by decide +kernel
theorem dX4_takeBody_34 : decode cX4_takeBody 34 = .ok (.getfield 15, 3) := by decide +kernel
theorem dX4_takeBody_37 : decode cX4_takeBody 37 = .ok (.iload 4, 2) := by decide +kernel
theorem dX4_takeBody_39 : decode cX4_takeBody 39 = .ok (.bastore, 1) := by decide +kernel
theorem dX4_takeBody_40 : decode cX4_takeBody 40 = .ok (.aload_n 0, 1) := by decide +kernel
theorem dX4_takeBody_41 : decode cX4_takeBody 41 = .ok (.getfield 30, 3) := by decide +kernel
theorem dX4_takeBody_44 : decode cX4_takeBody 44 = .ok (.aload_n 0, 1) := by decide +kernel
theorem dX4_takeBody_45 : decode cX4_takeBody 45 = .ok (.getfield 15, 3) := by decide +kernel
theorem dX4_takeBody_48 : decode cX4_takeBody 48 = .ok (.iload 5, 2) := by decide +kernel
theorem dX4_takeBody_50 : decode cX4_takeBody 50 = .ok (.iastore, 1) := by decide +kernel
theorem dX4_takeBody_51 : decode cX4_takeBody 51 = .ok (.aload_n 0, 1) := by decide +kernel
theorem dX4_takeBody_52 : decode cX4_takeBody 52 = .ok (.dup, 1) := by decide +kernel
theorem dX4_takeBody_53 : decode cX4_takeBody 53 = .ok (.getfield 15, 3) := by decide +kernel
theorem dX4_takeBody_56 : decode cX4_takeBody 56 = .ok (.iconst 1, 1) := by decide +kernel
theorem dX4_takeBody_57 : decode cX4_takeBody 57 = .ok (.iadd, 1) := by decide +kernel
theorem dX4_takeBody_58 : decode cX4_takeBody 58 = .ok (.putfield 15, 3) := by decide +kernel
theorem dX4_takeBody_61 : decode cX4_takeBody 61 = .ok (.return_, 1) := by decide +kernel
theorem dX4_placeOf_0 : decode cX4_placeOf 0 = .ok (.iconst 0, 1) := by decide +kernel
theorem dX4_placeOf_1 : decode cX4_placeOf 1 = .ok (.istore_n 3, 1) := by decide +kernel
theorem dX4_placeOf_2 : decode cX4_placeOf 2 = .ok (.iload_n 3, 1) := by decide +kernel
theorem dX4_placeOf_3 : decode cX4_placeOf 3 = .ok (.aload_n 0, 1) := by decide +kernel
theorem dX4_placeOf_4 : decode cX4_placeOf 4 = .ok (.getfield 15, 3) := by decide +kernel
theorem dX4_placeOf_7 : decode cX4_placeOf 7 = .ok (.if_icmp .ge 22, 3) := by decide +kernel
theorem dX4_placeOf_10 : decode cX4_placeOf 10 = .ok (.aload_n 0, 1) := by decide +kernel
theorem dX4_placeOf_11 : decode cX4_placeOf 11 = .ok (.getfield 18, 3) := by decide +kernel
theorem dX4_placeOf_14 : decode cX4_placeOf 14 = .ok (.iload_n 3, 1) := by decide +kernel
theorem dX4_placeOf_15 : decode cX4_placeOf 15 = .ok (.laload, 1) := by decide +kernel
theorem dX4_placeOf_16 : decode cX4_placeOf 16 = .ok (.lload_n 1, 1) := by decide +kernel
theorem dX4_placeOf_17 : decode cX4_placeOf 17 = .ok (.lcmp, 1) := by decide +kernel
theorem dX4_placeOf_18 : decode cX4_placeOf 18 = .ok (.ifCond .ne 5, 3) := by decide +kernel
theorem dX4_placeOf_21 : decode cX4_placeOf 21 = .ok (.iload_n 3, 1) := by decide +kernel
theorem dX4_placeOf_22 : decode cX4_placeOf 22 = .ok (.ireturn, 1) := by decide +kernel
theorem dX4_placeOf_23 : decode cX4_placeOf 23 = .ok (.iinc 3 1, 3) := by decide +kernel
theorem dX4_placeOf_26 : decode cX4_placeOf 26 = .ok (.goto (-24), 3) := by decide +kernel
theorem dX4_placeOf_29 : decode cX4_placeOf 29 = .ok (.iconst (-1), 1) := by decide +kernel
theorem dX4_placeOf_30 : decode cX4_placeOf 30 = .ok (.ireturn, 1) := by decide +kernel
theorem dX4_rateTop_0 : decode cX4_rateTop 0 = .ok (.aload_n 0, 1) := by decide +kernel
theorem dX4_rateTop_1 : decode cX4_rateTop 1 = .ok (.getfield 26, 3) := by decide +kernel
theorem dX4_rateTop_4 : decode cX4_rateTop 4 = .ok (.iload_n 1, 1) := by decide +kernel
theorem dX4_rateTop_5 : decode cX4_rateTop 5 = .ok (.baload, 1) := by decide +kernel
theorem dX4_rateTop_6 : decode cX4_rateTop 6 = .ok (.ifCond .eq 9, 3) := by decide +kernel
theorem dX4_rateTop_9 : decode cX4_rateTop 9 = .ok (.ldc2_w 39, 3) := by decide +kernel
theorem dX4_rateTop_12 : decode cX4_rateTop 12 = .ok (.goto 6, 3) := by decide +kernel
theorem dX4_rateTop_15 : decode cX4_rateTop 15 = .ok (.ldc2_w 41, 3) := by decide +kernel
theorem dX4_rateTop_18 : decode cX4_rateTop 18 = .ok (.lreturn, 1) := by decide +kernel
theorem dX4_endDay_0 : decode cX4_endDay 0 = .ok (.sipush 365, 3) := by decide +kernel
theorem dX4_endDay_3 : decode cX4_endDay 3 = .ok (.iload_n 1, 1) := by decide +kernel
theorem dX4_endDay_4 : decode cX4_endDay 4 = .ok (.aload_n 0, 1) := by decide +kernel
theorem dX4_endDay_5 : decode cX4_endDay 5 = .ok (.getfield 9, 3) := by decide +kernel
theorem dX4_endDay_8 : decode cX4_endDay 8 = .ok (.isub, 1) := by decide +kernel
theorem dX4_endDay_9 : decode cX4_endDay 9 = .ok (.iconst 1, 1) := by decide +kernel
theorem dX4_endDay_10 : decode cX4_endDay 10 = .ok (.iadd, 1) := by decide +kernel
theorem dX4_endDay_11 : decode cX4_endDay 11 = .ok (.imul, 1) := by decide +kernel
theorem dX4_endDay_12 : decode cX4_endDay 12 = .ok (.iload_n 1, 1) := by decide +kernel
theorem dX4_endDay_13 : decode cX4_endDay 13 = .ok (.invokestatic 43, 3) := by decide +kernel
theorem dX4_endDay_16 : decode cX4_endDay 16 = .ok (.iadd, 1) := by decide +kernel
theorem dX4_endDay_17 : decode cX4_endDay 17 = .ok (.aload_n 0, 1) := by decide +kernel
theorem dX4_endDay_18 : decode cX4_endDay 18 = .ok (.getfield 9, 3) := by decide +kernel
theorem dX4_endDay_21 : decode cX4_endDay 21 = .ok (.iconst 1, 1) := by decide +kernel
theorem dX4_endDay_22 : decode cX4_endDay 22 = .ok (.isub, 1) := by decide +kernel
theorem dX4_endDay_23 : decode cX4_endDay 23 = .ok (.invokestatic 43, 3) := by decide +kernel
theorem dX4_endDay_26 : decode cX4_endDay 26 = .ok (.isub, 1) := by decide +kernel
theorem dX4_endDay_27 : decode cX4_endDay 27 = .ok (.ireturn, 1) := by decide +kernel
theorem dX4_yearWith_0 : decode cX4_yearWith 0 = .ok (.aload_n 0, 1) := by decide +kernel
theorem dX4_yearWith_1 : decode cX4_yearWith 1 = .ok (.getfield 9, 3) := by decide +kernel
theorem dX4_yearWith_4 : decode cX4_yearWith 4 = .ok (.iload_n 1, 1) := by decide +kernel
theorem dX4_yearWith_5 : decode cX4_yearWith 5 = .ok (.sipush 366, 3) := by decide +kernel
theorem dX4_yearWith_8 : decode cX4_yearWith 8 = .ok (.idiv, 1) := by decide +kernel
theorem dX4_yearWith_9 : decode cX4_yearWith 9 = .ok (.iadd, 1) := by decide +kernel
theorem dX4_yearWith_10 : decode cX4_yearWith 10 = .ok (.istore_n 2, 1) := by decide +kernel
theorem dX4_yearWith_11 : decode cX4_yearWith 11 = .ok (.iconst 0, 1) := by decide +kernel
theorem dX4_yearWith_12 : decode cX4_yearWith 12 = .ok (.istore_n 3, 1) := by decide +kernel
theorem dX4_yearWith_13 : decode cX4_yearWith 13 = .ok (.iload_n 3, 1) := by decide +kernel
theorem dX4_yearWith_14 : decode cX4_yearWith 14 = .ok (.sipush 1000, 3) := by decide +kernel
theorem dX4_yearWith_17 : decode cX4_yearWith 17 = .ok (.if_icmp .ge 21, 3) := by decide +kernel
theorem dX4_yearWith_20 : decode cX4_yearWith 20 = .ok (.aload_n 0, 1) := by decide +kernel
theorem dX4_yearWith_21 : decode cX4_yearWith 21 = .ok (.iload_n 2, 1) := by decide +kernel
theorem dX4_yearWith_22 : decode cX4_yearWith 22 = .ok (.invokevirtual 47, 3) := by decide +kernel
theorem dX4_yearWith_25 : decode cX4_yearWith 25 = .ok (.iload_n 1, 1) := by decide +kernel
theorem dX4_yearWith_26 : decode cX4_yearWith 26 = .ok (.if_icmp .gt 12, 3) := by decide +kernel
theorem dX4_yearWith_29 : decode cX4_yearWith 29 = .ok (.iinc 2 1, 3) := by decide +kernel
theorem dX4_yearWith_32 : decode cX4_yearWith 32 = .ok (.iinc 3 1, 3) := by decide +kernel
theorem dX4_yearWith_35 : decode cX4_yearWith 35 = .ok (.goto (-22), 3) := by decide +kernel
theorem dX4_yearWith_38 : decode cX4_yearWith 38 = .ok (.iload_n 2, 1) := by decide +kernel
theorem dX4_yearWith_39 : decode cX4_yearWith 39 = .ok (.ireturn, 1) := by decide +kernel
theorem dX4_leapYearsTo_0 : decode cX4_leapYearsTo 0 = .ok (.iload_n 0, 1) := by decide +kernel
theorem dX4_leapYearsTo_1 : decode cX4_leapYearsTo 1 = .ok (.iconst 4, 1) := by decide +kernel
theorem dX4_leapYearsTo_2 : decode cX4_leapYearsTo 2 = .ok (.idiv, 1) := by decide +kernel
theorem dX4_leapYearsTo_3 : decode cX4_leapYearsTo 3 = .ok (.iload_n 0, 1) := by decide +kernel
theorem dX4_leapYearsTo_4 : decode cX4_leapYearsTo 4 = .ok (.bipush 100, 2) := by decide +kernel
theorem dX4_leapYearsTo_6 : decode cX4_leapYearsTo 6 = .ok (.idiv, 1) := by decide +kernel
theorem dX4_leapYearsTo_7 : decode cX4_leapYearsTo 7 = .ok (.isub, 1) := by decide +kernel
theorem dX4_leapYearsTo_8 : decode cX4_leapYearsTo 8 = .ok (.iload_n 0, 1) := by decide +kernel
theorem dX4_leapYearsTo_9 : decode cX4_leapYearsTo 9 = .ok (.sipush 400, 3) := by decide +kernel
theorem dX4_leapYearsTo_12 : decode cX4_leapYearsTo 12 = .ok (.idiv, 1) := by decide +kernel
theorem dX4_leapYearsTo_13 : decode cX4_leapYearsTo 13 = .ok (.iadd, 1) := by decide +kernel
theorem dX4_leapYearsTo_14 : decode cX4_leapYearsTo 14 = .ok (.ireturn, 1) := by decide +kernel
theorem dX5_init_0 : decode cX5_init 0 = .ok (.aload_n 0, 1) := by decide +kernel
theorem dX5_init_1 : decode cX5_init 1 = .ok (.invokespecial 3, 3) := by decide +kernel
theorem dX5_init_4 : decode cX5_init 4 = .ok (.aload_n 0, 1) := by decide +kernel
theorem dX5_init_5 : decode cX5_init 5 = .ok (.new 9, 3) := by decide +kernel
theorem dX5_init_8 : decode cX5_init 8 = .ok (.dup, 1) := by decide +kernel
theorem dX5_init_9 : decode cX5_init 9 = .ok (.invokespecial 11, 3) := by decide +kernel
theorem dX5_init_12 : decode cX5_init 12 = .ok (.putfield 12, 3) := by decide +kernel
theorem dX5_init_15 : decode cX5_init 15 = .ok (.aload_n 0, 1) := by decide +kernel
theorem dX5_init_16 : decode cX5_init 16 = .ok (.new 18, 3) := by decide +kernel
theorem dX5_init_19 : decode cX5_init 19 = .ok (.dup, 1) := by decide +kernel
theorem dX5_init_20 : decode cX5_init 20 = .ok (.invokespecial 20, 3) := by decide +kernel
theorem dX5_init_23 : decode cX5_init 23 = .ok (.putfield 21, 3) := by decide +kernel
theorem dX5_init_26 : decode cX5_init 26 = .ok (.aload_n 0, 1) := by decide +kernel
theorem dX5_init_27 : decode cX5_init 27 = .ok (.new 25, 3) := by decide +kernel
theorem dX5_init_30 : decode cX5_init 30 = .ok (.dup, 1) := by decide +kernel
theorem dX5_init_31 : decode cX5_init 31 = .ok (.invokespecial 27, 3) := by decide +kernel
theorem dX5_init_34 : decode cX5_init 34 = .ok (.putfield 28, 3) := by decide +kernel
theorem dX5_init_37 : decode cX5_init 37 = .ok (.aload_n 0, 1) := by decide +kernel
theorem dX5_init_38 : decode cX5_init 38 = .ok (.iconst 0, 1) := by decide +kernel
theorem dX5_init_39 : decode cX5_init 39 = .ok (.putfield 32, 3) := by decide +kernel
theorem dX5_init_42 : decode cX5_init 42 = .ok (.aload_n 0, 1) := by decide +kernel
theorem dX5_init_43 : decode cX5_init 43 = .ok (.iconst (-1), 1) := by decide +kernel
theorem dX5_init_44 : decode cX5_init 44 = .ok (.putfield 36, 3) := by decide +kernel
theorem dX5_init_47 : decode cX5_init 47 = .ok (.aload_n 0, 1) := by decide +kernel
theorem dX5_init_48 : decode cX5_init 48 = .ok (.iconst 0, 1) := by decide +kernel
theorem dX5_init_49 : decode cX5_init 49 = .ok (.putfield 39, 3) := by decide +kernel
theorem dX5_init_52 : decode cX5_init 52 = .ok (.aload_n 0, 1) := by decide +kernel
theorem dX5_init_53 : decode cX5_init 53 = .ok (.iconst 0, 1) := by decide +kernel
theorem dX5_init_54 : decode cX5_init 54 = .ok (.putfield 43, 3) := by decide +kernel
theorem dX5_init_57 : decode cX5_init 57 = .ok (.aload_n 0, 1) := by decide +kernel
theorem dX5_init_58 : decode cX5_init 58 = .ok (.iconst 0, 1) := by decide +kernel
theorem dX5_init_59 : decode cX5_init 59 = .ok (.putfield 46, 3) := by decide +kernel
theorem dX5_init_62 : decode cX5_init 62 = .ok (.return_, 1) := by decide +kernel
theorem dX5_readText_0 : decode cX5_readText 0 = .ok (.aload_n 0, 1) := by decide +kernel
theorem dX5_readText_1 : decode cX5_readText 1 = .ok (.iconst 0, 1) := by decide +kernel
theorem dX5_readText_2 : decode cX5_readText 2 = .ok (.putfield 32, 3) := by decide +kernel
theorem dX5_readText_5 : decode cX5_readText 5 = .ok (.aload_n 0, 1) := by decide +kernel
theorem dX5_readText_6 : decode cX5_readText 6 = .ok (.iconst (-1), 1) := by decide +kernel
theorem dX5_readText_7 : decode cX5_readText 7 = .ok (.putfield 36, 3) := by decide +kernel
theorem dX5_readText_10 : decode cX5_readText 10 = .ok (.aload_n 0, 1) := by decide +kernel
theorem dX5_readText_11 : decode cX5_readText 11 = .ok (.getfield 21, 3) := by decide +kernel
theorem dX5_readText_14 : decode cX5_readText 14 = .ok (.invokevirtual 49, 3) := by decide +kernel
theorem dX5_readText_17 : decode cX5_readText 17 = .ok (.aload_n 0, 1) := by decide +kernel
theorem dX5_readText_18 : decode cX5_readText 18 = .ok (.getfield 28, 3) := by decide +kernel
theorem dX5_readText_21 : decode cX5_readText 21 = .ok (.invokevirtual 52, 3) := by decide +kernel
theorem dX5_readText_24 : decode cX5_readText 24 = .ok (.aload_n 0, 1) := by decide +kernel
theorem dX5_readText_25 : decode cX5_readText 25 = .ok (.iconst 0, 1) := by decide +kernel
theorem dX5_readText_26 : decode cX5_readText 26 = .ok (.putfield 39, 3) := by decide +kernel
theorem dX5_readText_29 : decode cX5_readText 29 = .ok (.aload_n 0, 1) := by decide +kernel
theorem dX5_readText_30 : decode cX5_readText 30 = .ok (.iconst 0, 1) := by decide +kernel
theorem dX5_readText_31 : decode cX5_readText 31 = .ok (.putfield 43, 3) := by decide +kernel
theorem dX5_readText_34 : decode cX5_readText 34 = .ok (.aload_n 0, 1) := by decide +kernel
theorem dX5_readText_35 : decode cX5_readText 35 = .ok (.iconst 0, 1) := by decide +kernel
theorem dX5_readText_36 : decode cX5_readText 36 = .ok (.putfield 46, 3) := by decide +kernel
theorem dX5_readText_39 : decode cX5_readText 39 = .ok (.aload_n 0, 1) := by decide +kernel
theorem dX5_readText_40 : decode cX5_readText 40 = .ok (.getfield 12, 3) := by decide +kernel
theorem dX5_readText_43 : decode cX5_readText 43 = .ok (.invokevirtual 53, 3) := by decide +kernel
theorem dX5_readText_46 : decode cX5_readText 46 = .ok (.iconst 1, 1) := by decide +kernel
theorem dX5_readText_47 : decode cX5_readText 47 = .ok (.istore_n 1, 1) := by decide +kernel
theorem dX5_readText_48 : decode cX5_readText 48 = .ok (.iconst 0, 1) := by decide +kernel
theorem dX5_readText_49 : decode cX5_readText 49 = .ok (.istore_n 2, 1) := by decide +kernel
theorem dX5_readText_50 : decode cX5_readText 50 = .ok (.iload_n 2, 1) := by decide +kernel
theorem dX5_readText_51 : decode cX5_readText 51 = .ok (.sipush 900, 3) := by decide +kernel
theorem dX5_readText_54 : decode cX5_readText 54 = .ok (.if_icmp .ge 43, 3) := by decide +kernel
theorem dX5_readText_57 : decode cX5_readText 57 = .ok (.iload_n 1, 1) := by decide +kernel
theorem dX5_readText_58 : decode cX5_readText 58 = .ok (.ifCond .eq 39, 3) := by decide +kernel
theorem dX5_readText_61 : decode cX5_readText 61 = .ok (.aload_n 0, 1) := by decide +kernel
theorem dX5_readText_62 : decode cX5_readText 62 = .ok (.getfield 12, 3) := by decide +kernel
theorem dX5_readText_65 : decode cX5_readText 65 = .ok (.getfield 56, 3) := by decide +kernel
theorem dX5_readText_68 : decode cX5_readText 68 = .ok (.ifCond .eq 29, 3) := by decide +kernel
theorem dX5_readText_71 : decode cX5_readText 71 = .ok (.aload_n 0, 1) := by decide +kernel
theorem dX5_readText_72 : decode cX5_readText 72 = .ok (.invokevirtual 59, 3) := by decide +kernel
theorem dX5_readText_75 : decode cX5_readText 75 = .ok (.ifCond .eq 14, 3) := by decide +kernel
theorem dX5_readText_78 : decode cX5_readText 78 = .ok (.aload_n 0, 1) := by decide +kernel
theorem dX5_readText_79 : decode cX5_readText 79 = .ok (.invokevirtual 63, 3) := by decide +kernel
theorem dX5_readText_82 : decode cX5_readText 82 = .ok (.ifCond .eq 7, 3) := by decide +kernel
theorem dX5_readText_85 : decode cX5_readText 85 = .ok (.iconst 1, 1) := by decide +kernel
theorem dX5_readText_86 : decode cX5_readText 86 = .ok (.goto 4, 3) := by decide +kernel
theorem dX5_readText_89 : decode cX5_readText 89 = .ok (.iconst 0, 1) := by decide +kernel
theorem dX5_readText_90 : decode cX5_readText 90 = .ok (.istore_n 1, 1) := by decide +kernel
theorem dX5_readText_91 : decode cX5_readText 91 = .ok (.iinc 2 1, 3) := by decide +kernel
theorem dX5_readText_94 : decode cX5_readText 94 = .ok (.goto (-44), 3) := by decide +kernel
theorem dX5_readText_97 : decode cX5_readText 97 = .ok (.iload_n 1, 1) := by decide +kernel
theorem dX5_readText_98 : decode cX5_readText 98 = .ok (.ireturn, 1) := by decide +kernel
theorem dX5_fail_0 : decode cX5_fail 0 = .ok (.aload_n 0, 1) := by decide +kernel
theorem dX5_fail_1 : decode cX5_fail 1 = .ok (.iload_n 1, 1) := by decide +kernel
theorem dX5_fail_2 : decode cX5_fail 2 = .ok (.putfield 32, 3) := by decide +kernel
theorem dX5_fail_5 : decode cX5_fail 5 = .ok (.aload_n 0, 1) := by decide +kernel
theorem dX5_fail_6 : decode cX5_fail 6 = .ok (.aload_n 0, 1) := by decide +kernel
theorem dX5_fail_7 : decode cX5_fail 7 = .ok (.getfield 12, 3) := by decide +kernel
theorem dX5_fail_10 : decode cX5_fail 10 = .ok (.getfield 66, 3) := by decide +kernel
theorem dX5_fail_13 : decode cX5_fail 13 = .ok (.putfield 36, 3) := by decide +kernel
theorem dX5_fail_16 : decode cX5_fail 16 = .ok (.iconst 0, 1) := by decide +kernel
theorem dX5_fail_17 : decode cX5_fail 17 = .ok (.ireturn, 1) := by decide +kernel
theorem dX5_readStatement_0 : decode cX5_readStatement 0 = .ok (.aload_n 0, 1) := by decide +kernel
theorem dX5_readStatement_1 : decode cX5_readStatement 1 = .ok (.getfield 12, 3) := by decide +kernel
theorem dX5_readStatement_4 : decode cX5_readStatement 4 = .ok (.getstatic 69, 3) := by decide +kernel
theorem dX5_readStatement_7 : decode cX5_readStatement 7 = .ok (.invokevirtual 75, 3) := by decide +kernel
theorem dX5_readStatement_10 : decode cX5_readStatement 10 = .ok (.ifCond .eq 8, 3) := by decide +kernel
theorem dX5_readStatement_13 : decode cX5_readStatement 13 = .ok (.aload_n 0, 1) := by decide +kernel
theorem dX5_readStatement_14 : decode cX5_readStatement 14 = .ok (.invokevirtual 79, 3) := by decide +kernel
theorem dX5_readStatement_17 : decode cX5_readStatement 17 = .ok (.ireturn, 1) := by decide +kernel
theorem dX5_readStatement_18 : decode cX5_readStatement 18 = .ok (.aload_n 0, 1) := by decide +kernel
theorem dX5_readStatement_19 : decode cX5_readStatement 19 = .ok (.getfield 12, 3) := by decide +kernel
theorem dX5_readStatement_22 : decode cX5_readStatement 22 = .ok (.getstatic 82, 3) := by decide +kernel
theorem dX5_readStatement_25 : decode cX5_readStatement 25 = .ok (.invokevirtual 75, 3) := by decide +kernel
theorem dX5_readStatement_28 : decode cX5_readStatement 28 = .ok (.ifCond .eq 8, 3) := by decide +kernel
theorem dX5_readStatement_31 : decode cX5_readStatement 31 = .ok (.aload_n 0, 1) := by decide +kernel
theorem dX5_readStatement_32 : decode cX5_readStatement 32 = .ok (.invokevirtual 85, 3) := by decide +kernel
theorem dX5_readStatement_35 : decode cX5_readStatement 35 = .ok (.ireturn, 1) := by decide +kernel
theorem dX5_readStatement_36 : decode cX5_readStatement 36 = .ok (.aload_n 0, 1) := by decide +kernel
theorem dX5_readStatement_37 : decode cX5_readStatement 37 = .ok (.getfield 12, 3) := by decide +kernel
theorem dX5_readStatement_40 : decode cX5_readStatement 40 = .ok (.getstatic 88, 3) := by decide +kernel
theorem dX5_readStatement_43 : decode cX5_readStatement 43 = .ok (.invokevirtual 75, 3) := by decide +kernel
theorem dX5_readStatement_46 : decode cX5_readStatement 46 = .ok (.ifCond .eq 8, 3) := by decide +kernel
theorem dX5_readStatement_49 : decode cX5_readStatement 49 = .ok (.aload_n 0, 1) := by decide +kernel
theorem dX5_readStatement_50 : decode cX5_readStatement 50 = .ok (.invokevirtual 91, 3) := by decide +kernel
theorem dX5_readStatement_53 : decode cX5_readStatement 53 = .ok (.ireturn, 1) := by decide +kernel
theorem dX5_readStatement_54 : decode cX5_readStatement 54 = .ok (.aload_n 0, 1) := by decide +kernel
theorem dX5_readStatement_55 : decode cX5_readStatement 55 = .ok (.getfield 12, 3) := by decide +kernel
theorem dX5_readStatement_58 : decode cX5_readStatement 58 = .ok (.getstatic 94, 3) := by decide +kernel
theorem dX5_readStatement_61 : decode cX5_readStatement 61 = .ok (.invokevirtual 75, 3) := by decide +kernel
theorem dX5_readStatement_64 : decode cX5_readStatement 64 = .ok (.ifCond .eq 8, 3) := by decide +kernel
theorem dX5_readStatement_67 : decode cX5_readStatement 67 = .ok (.aload_n 0, 1) := by decide +kernel
theorem dX5_readStatement_68 : decode cX5_readStatement 68 = .ok (.invokevirtual 97, 3) := by decide +kernel
theorem dX5_readStatement_71 : decode cX5_readStatement 71 = .ok (.ireturn, 1) := by decide +kernel
theorem dX5_readStatement_72 : decode cX5_readStatement 72 = .ok (.aload_n 0, 1) := by decide +kernel
theorem dX5_readStatement_73 : decode cX5_readStatement 73 = .ok (.getfield 12, 3) := by decide +kernel
theorem dX5_readStatement_76 : decode cX5_readStatement 76 = .ok (.getstatic 100, 3) := by decide +kernel
theorem dX5_readStatement_79 : decode cX5_readStatement 79 = .ok (.invokevirtual 75, 3) := by decide +kernel
theorem dX5_readStatement_82 : decode cX5_readStatement 82 = .ok (.ifCond .eq 8, 3) := by decide +kernel
theorem dX5_readStatement_85 : decode cX5_readStatement 85 = .ok (.aload_n 0, 1) := by decide +kernel
theorem dX5_readStatement_86 : decode cX5_readStatement 86 = .ok (.invokevirtual 103, 3) := by decide +kernel
theorem dX5_readStatement_89 : decode cX5_readStatement 89 = .ok (.ireturn, 1) := by decide +kernel
theorem dX5_readStatement_90 : decode cX5_readStatement 90 = .ok (.aload_n 0, 1) := by decide +kernel
theorem dX5_readStatement_91 : decode cX5_readStatement 91 = .ok (.iconst 1, 1) := by decide +kernel
theorem dX5_readStatement_92 : decode cX5_readStatement 92 = .ok (.invokevirtual 106, 3) := by decide +kernel
theorem dX5_readStatement_95 : decode cX5_readStatement 95 = .ok (.ireturn, 1) := by decide +kernel
theorem dX5_readSemicolon_0 : decode cX5_readSemicolon 0 = .ok (.aload_n 0, 1) := by decide +kernel
theorem dX5_readSemicolon_1 : decode cX5_readSemicolon 1 = .ok (.getfield 12, 3) := by decide +kernel
theorem dX5_readSemicolon_4 : decode cX5_readSemicolon 4 = .ok (.getfield 56, 3) := by decide +kernel
theorem dX5_readSemicolon_7 : decode cX5_readSemicolon 7 = .ok (.iconst 3, 1) := by decide +kernel
theorem dX5_readSemicolon_8 : decode cX5_readSemicolon 8 = .ok (.if_icmp .eq 9, 3) := by decide +kernel
theorem dX5_readSemicolon_11 : decode cX5_readSemicolon 11 = .ok (.aload_n 0, 1) := by decide +kernel
theorem dX5_readSemicolon_12 : decode cX5_readSemicolon 12 = .ok (.iconst 1, 1) := by decide +kernel
theorem dX5_readSemicolon_13 : decode cX5_readSemicolon 13 = .ok (.invokevirtual 106, 3) := by decide +kernel
theorem dX5_readSemicolon_16 : decode cX5_readSemicolon 16 = .ok (.ireturn, 1) := by decide +kernel
theorem dX5_readSemicolon_17 : decode cX5_readSemicolon 17 = .ok (.aload_n 0, 1) := by decide +kernel
theorem dX5_readSemicolon_18 : decode cX5_readSemicolon 18 = .ok (.getfield 12, 3) := by decide +kernel
theorem dX5_readSemicolon_21 : decode cX5_readSemicolon 21 = .ok (.invokevirtual 110, 3) := by decide +kernel
theorem dX5_readSemicolon_24 : decode cX5_readSemicolon 24 = .ok (.iconst 1, 1) := by decide +kernel
theorem dX5_readSemicolon_25 : decode cX5_readSemicolon 25 = .ok (.ireturn, 1) := by decide +kernel
theorem dX5_numberStands_0 : decode cX5_numberStands 0 = .ok (.aload_n 0, 1) := by decide +kernel
theorem dX5_numberStands_1 : decode cX5_numberStands 1 = .ok (.getfield 12, 3) := by decide +kernel
theorem dX5_numberStands_4 : decode cX5_numberStands 4 = .ok (.getfield 56, 3) := by decide +kernel
theorem dX5_numberStands_7 : decode cX5_numberStands 7 = .ok (.iconst 2, 1) := by decide +kernel
theorem dX5_numberStands_8 : decode cX5_numberStands 8 = .ok (.if_icmp .eq 9, 3) := by decide +kernel
theorem dX5_numberStands_11 : decode cX5_numberStands 11 = .ok (.aload_n 0, 1) := by decide +kernel
theorem dX5_numberStands_12 : decode cX5_numberStands 12 = .ok (.iconst 1, 1) := by decide +kernel
theorem dX5_numberStands_13 : decode cX5_numberStands 13 = .ok (.invokevirtual 106, 3) := by decide +kernel
theorem dX5_numberStands_16 : decode cX5_numberStands 16 = .ok (.ireturn, 1) := by decide +kernel
theorem dX5_numberStands_17 : decode cX5_numberStands 17 = .ok (.aload_n 0, 1) := by decide +kernel
theorem dX5_numberStands_18 : decode cX5_numberStands 18 = .ok (.getfield 12, 3) := by decide +kernel
theorem dX5_numberStands_21 : decode cX5_numberStands 21 = .ok (.getfield 113, 3) := by decide +kernel
theorem dX5_numberStands_24 : decode cX5_numberStands 24 = .ok (.iload_n 1, 1) := by decide +kernel
theorem dX5_numberStands_25 : decode cX5_numberStands 25 = .ok (.if_icmp .lt 14, 3) := by decide +kernel
theorem dX5_numberStands_28 : decode cX5_numberStands 28 = .ok (.aload_n 0, 1) := by decide +kernel
theorem dX5_numberStands_29 : decode cX5_numberStands 29 = .ok (.getfield 12, 3) := by decide +kernel
theorem dX5_numberStands_32 : decode cX5_numberStands 32 = .ok (.getfield 113, 3) := by decide +kernel
theorem dX5_numberStands_35 : decode cX5_numberStands 35 = .ok (.iload_n 2, 1) := by decide +kernel
theorem dX5_numberStands_36 : decode cX5_numberStands 36 = .ok (.if_icmp .le 11, 3) := by decide +kernel
theorem dX5_numberStands_39 : decode cX5_numberStands 39 = .ok (.aload_n 0, 1) := by decide +kernel
theorem dX5_numberStands_40 : decode cX5_numberStands 40 = .ok (.iconst 2, 1) := by decide +kernel
theorem dX5_numberStands_41 : decode cX5_numberStands 41 = .ok (.invokevirtual 106, 3) := by decide +kernel
theorem dX5_numberStands_44 : decode cX5_numberStands 44 = .ok (.ifCond .eq 7, 3) := by decide +kernel
theorem dX5_numberStands_47 : decode cX5_numberStands 47 = .ok (.iconst 1, 1) := by decide +kernel
theorem dX5_numberStands_48 : decode cX5_numberStands 48 = .ok (.goto 4, 3) := by decide +kernel
theorem dX5_numberStands_51 : decode cX5_numberStands 51 = .ok (.iconst 0, 1) := by decide +kernel
theorem dX5_numberStands_52 : decode cX5_numberStands 52 = .ok (.ireturn, 1) := by decide +kernel
theorem dX5_nameStands_0 : decode cX5_nameStands 0 = .ok (.aload_n 0, 1) := by decide +kernel
theorem dX5_nameStands_1 : decode cX5_nameStands 1 = .ok (.getfield 12, 3) := by decide +kernel
theorem dX5_nameStands_4 : decode cX5_nameStands 4 = .ok (.invokevirtual 116, 3) := by decide +kernel
theorem dX5_nameStands_7 : decode cX5_nameStands 7 = .ok (.ifCond .ne 11, 3) := by decide +kernel
theorem dX5_nameStands_10 : decode cX5_nameStands 10 = .ok (.aload_n 0, 1) := by decide +kernel
theorem dX5_nameStands_11 : decode cX5_nameStands 11 = .ok (.iconst 1, 1) := by decide +kernel
theorem dX5_nameStands_12 : decode cX5_nameStands 12 = .ok (.invokevirtual 106, 3) := by decide +kernel
theorem dX5_nameStands_15 : decode cX5_nameStands 15 = .ok (.ifCond .eq 7, 3) := by decide +kernel
theorem dX5_nameStands_18 : decode cX5_nameStands 18 = .ok (.iconst 1, 1) := by decide +kernel
theorem dX5_nameStands_19 : decode cX5_nameStands 19 = .ok (.goto 4, 3) := by decide +kernel
theorem dX5_nameStands_22 : decode cX5_nameStands 22 = .ok (.iconst 0, 1) := by decide +kernel
theorem dX5_nameStands_23 : decode cX5_nameStands 23 = .ok (.ireturn, 1) := by decide +kernel
theorem dX5_readStock_0 : decode cX5_readStock 0 = .ok (.aload_n 0, 1) := by decide +kernel
theorem dX5_readStock_1 : decode cX5_readStock 1 = .ok (.getfield 39, 3) := by decide +kernel
theorem dX5_readStock_4 : decode cX5_readStock 4 = .ok (.ifCond .eq 9, 3) := by decide +kernel
theorem dX5_readStock_7 : decode cX5_readStock 7 = .ok (.aload_n 0, 1) := by decide +kernel
theorem dX5_readStock_8 : decode cX5_readStock 8 = .ok (.iconst 4, 1) := by decide +kernel
theorem dX5_readStock_9 : decode cX5_readStock 9 = .ok (.invokevirtual 106, 3) := by decide +kernel
theorem dX5_readStock_12 : decode cX5_readStock 12 = .ok (.ireturn, 1) := by decide +kernel
theorem dX5_readStock_13 : decode cX5_readStock 13 = .ok (.aload_n 0, 1) := by decide +kernel
theorem dX5_readStock_14 : decode cX5_readStock 14 = .ok (.iconst 1, 1) := by decide +kernel
theorem dX5_readStock_15 : decode cX5_readStock 15 = .ok (.putfield 39, 3) := by decide +kernel
theorem dX5_readStock_18 : decode cX5_readStock 18 = .ok (.aload_n 0, 1) := by decide +kernel
theorem dX5_readStock_19 : decode cX5_readStock 19 = .ok (.getfield 12, 3) := by decide +kernel
theorem dX5_readStock_22 : decode cX5_readStock 22 = .ok (.invokevirtual 110, 3) := by decide +kernel
theorem dX5_readStock_25 : decode cX5_readStock 25 = .ok (.iconst 0, 1) := by decide +kernel
theorem dX5_readStock_26 : decode cX5_readStock 26 = .ok (.istore_n 1, 1) := by decide +kernel
theorem dX5_readStock_27 : decode cX5_readStock 27 = .ok (.iload_n 1, 1) := by decide +kernel
theorem dX5_readStock_28 : decode cX5_readStock 28 = .ok (.bipush 16, 2) := by decide +kernel
theorem dX5_readStock_30 : decode cX5_readStock 30 = .ok (.if_icmp .gt 81, 3) := by decide +kernel
theorem dX5_readStock_33 : decode cX5_readStock 33 = .ok (.iload_n 1, 1) := by decide +kernel
theorem dX5_readStock_34 : decode cX5_readStock 34 = .ok (.ifCond .eq 14, 3) := by decide +kernel
theorem dX5_readStock_37 : decode cX5_readStock 37 = .ok (.aload_n 0, 1) := by decide +kernel
theorem dX5_readStock_38 : decode cX5_readStock 38 = .ok (.getfield 12, 3) := by decide +kernel
theorem dX5_readStock_41 : decode cX5_readStock 41 = .ok (.getfield 56, 3) := by decide +kernel
theorem dX5_readStock_44 : decode cX5_readStock 44 = .ok (.iconst 2, 1) := by decide +kernel
theorem dX5_readStock_45 : decode cX5_readStock 45 = .ok (.if_icmp .ne 66, 3) := by decide +kernel
theorem dX5_readStock_48 : decode cX5_readStock 48 = .ok (.aload_n 0, 1) := by decide +kernel
theorem dX5_readStock_49 : decode cX5_readStock 49 = .ok (.bipush 8, 2) := by decide +kernel
theorem dX5_readStock_51 : decode cX5_readStock 51 = .ok (.bipush 100, 2) := by decide +kernel
theorem dX5_readStock_53 : decode cX5_readStock 53 = .ok (.invokevirtual 119, 3) := by decide +kernel
theorem dX5_readStock_56 : decode cX5_readStock 56 = .ok (.ifCond .ne 5, 3) := by decide +kernel
theorem dX5_readStock_59 : decode cX5_readStock 59 = .ok (.iconst 0, 1) := by decide +kernel
theorem dX5_readStock_60 : decode cX5_readStock 60 = .ok (.ireturn, 1) := by decide +kernel
theorem dX5_readStock_61 : decode cX5_readStock 61 = .ok (.aload_n 0, 1) := by decide +kernel
theorem dX5_readStock_62 : decode cX5_readStock 62 = .ok (.getfield 28, 3) := by decide +kernel
theorem dX5_readStock_65 : decode cX5_readStock 65 = .ok (.aload_n 0, 1) := by decide +kernel
theorem dX5_readStock_66 : decode cX5_readStock 66 = .ok (.getfield 12, 3) := by decide +kernel
theorem dX5_readStock_69 : decode cX5_readStock 69 = .ok (.getfield 113, 3) := by decide +kernel
theorem dX5_readStock_72 : decode cX5_readStock 72 = .ok (.invokevirtual 123, 3) := by decide +kernel
theorem dX5_readStock_75 : decode cX5_readStock 75 = .ok (.ifCond .ne 9, 3) := by decide +kernel
theorem dX5_readStock_78 : decode cX5_readStock 78 = .ok (.aload_n 0, 1) := by decide +kernel
theorem dX5_readStock_79 : decode cX5_readStock 79 = .ok (.iconst 4, 1) := by decide +kernel
theorem dX5_readStock_80 : decode cX5_readStock 80 = .ok (.invokevirtual 106, 3) := by decide +kernel
theorem dX5_readStock_83 : decode cX5_readStock 83 = .ok (.ireturn, 1) := by decide +kernel
theorem dX5_readStock_84 : decode cX5_readStock 84 = .ok (.aload_n 0, 1) := by decide +kernel
theorem dX5_readStock_85 : decode cX5_readStock 85 = .ok (.getfield 28, 3) := by decide +kernel
theorem dX5_readStock_88 : decode cX5_readStock 88 = .ok (.aload_n 0, 1) := by decide +kernel
theorem dX5_readStock_89 : decode cX5_readStock 89 = .ok (.getfield 12, 3) := by decide +kernel
theorem dX5_readStock_92 : decode cX5_readStock 92 = .ok (.getfield 113, 3) := by decide +kernel
theorem dX5_readStock_95 : decode cX5_readStock 95 = .ok (.invokevirtual 126, 3) := by decide +kernel
theorem dX5_readStock_98 : decode cX5_readStock 98 = .ok (.aload_n 0, 1) := by decide +kernel
theorem dX5_readStock_99 : decode cX5_readStock 99 = .ok (.getfield 12, 3) := by decide +kernel
theorem dX5_readStock_102 : decode cX5_readStock 102 = .ok (.invokevirtual 110, 3) := by decide +kernel
theorem dX5_readStock_105 : decode cX5_readStock 105 = .ok (.iinc 1 1, 3) := by decide +kernel
theorem dX5_readStock_108 : decode cX5_readStock 108 = .ok (.goto (-81), 3) := by decide +kernel
theorem dX5_readStock_111 : decode cX5_readStock 111 = .ok (.iconst 1, 1) := by decide +kernel
theorem dX5_readStock_112 : decode cX5_readStock 112 = .ok (.ireturn, 1) := by decide +kernel
theorem dX5_readStart_0 : decode cX5_readStart 0 = .ok (.aload_n 0, 1) := by decide +kernel
theorem dX5_readStart_1 : decode cX5_readStart 1 = .ok (.getfield 43, 3) := by decide +kernel
theorem dX5_readStart_4 : decode cX5_readStart 4 = .ok (.ifCond .eq 9, 3) := by decide +kernel
theorem dX5_readStart_7 : decode cX5_readStart 7 = .ok (.aload_n 0, 1) := by decide +kernel
theorem dX5_readStart_8 : decode cX5_readStart 8 = .ok (.iconst 4, 1) := by decide +kernel
theorem dX5_readStart_9 : decode cX5_readStart 9 = .ok (.invokevirtual 106, 3) := by decide +kernel
theorem dX5_readStart_12 : decode cX5_readStart 12 = .ok (.ireturn, 1) := by decide +kernel
theorem dX5_readStart_13 : decode cX5_readStart 13 = .ok (.aload_n 0, 1) := by decide +kernel
theorem dX5_readStart_14 : decode cX5_readStart 14 = .ok (.iconst 1, 1) := by decide +kernel
theorem dX5_readStart_15 : decode cX5_readStart 15 = .ok (.putfield 43, 3) := by decide +kernel
theorem dX5_readStart_18 : decode cX5_readStart 18 = .ok (.aload_n 0, 1) := by decide +kernel
theorem dX5_readStart_19 : decode cX5_readStart 19 = .ok (.getfield 12, 3) := by decide +kernel
theorem dX5_readStart_22 : decode cX5_readStart 22 = .ok (.invokevirtual 110, 3) := by decide +kernel
theorem dX5_readStart_25 : decode cX5_readStart 25 = .ok (.aload_n 0, 1) := by decide +kernel
theorem dX5_readStart_26 : decode cX5_readStart 26 = .ok (.sipush 1600, 3) := by decide +kernel
theorem dX5_readStart_29 : decode cX5_readStart 29 = .ok (.sipush 2400, 3) := by decide +kernel
theorem dX5_readStart_32 : decode cX5_readStart 32 = .ok (.invokevirtual 119, 3) := by decide +kernel
theorem dX5_readStart_35 : decode cX5_readStart 35 = .ok (.ifCond .ne 5, 3) := by decide +kernel
theorem dX5_readStart_38 : decode cX5_readStart 38 = .ok (.iconst 0, 1) := by decide +kernel
theorem dX5_readStart_39 : decode cX5_readStart 39 = .ok (.ireturn, 1) := by decide +kernel
theorem dX5_readStart_40 : decode cX5_readStart 40 = .ok (.aload_n 0, 1) := by decide +kernel
theorem dX5_readStart_41 : decode cX5_readStart 41 = .ok (.getfield 21, 3) := by decide +kernel
theorem dX5_readStart_44 : decode cX5_readStart 44 = .ok (.aload_n 0, 1) := by decide +kernel
theorem dX5_readStart_45 : decode cX5_readStart 45 = .ok (.getfield 12, 3) := by decide +kernel
theorem dX5_readStart_48 : decode cX5_readStart 48 = .ok (.getfield 113, 3) := by decide +kernel
theorem dX5_readStart_51 : decode cX5_readStart 51 = .ok (.putfield 130, 3) := by decide +kernel
theorem dX5_readStart_54 : decode cX5_readStart 54 = .ok (.aload_n 0, 1) := by decide +kernel
theorem dX5_readStart_55 : decode cX5_readStart 55 = .ok (.getfield 12, 3) := by decide +kernel
theorem dX5_readStart_58 : decode cX5_readStart 58 = .ok (.invokevirtual 110, 3) := by decide +kernel
theorem dX5_readStart_61 : decode cX5_readStart 61 = .ok (.iconst 1, 1) := by decide +kernel
theorem dX5_readStart_62 : decode cX5_readStart 62 = .ok (.ireturn, 1) := by decide +kernel
theorem dX5_readSlack_0 : decode cX5_readSlack 0 = .ok (.aload_n 0, 1) := by decide +kernel
theorem dX5_readSlack_1 : decode cX5_readSlack 1 = .ok (.getfield 46, 3) := by decide +kernel
theorem dX5_readSlack_4 : decode cX5_readSlack 4 = .ok (.ifCond .eq 9, 3) := by decide +kernel
theorem dX5_readSlack_7 : decode cX5_readSlack 7 = .ok (.aload_n 0, 1) := by decide +kernel
theorem dX5_readSlack_8 : decode cX5_readSlack 8 = .ok (.iconst 4, 1) := by decide +kernel
theorem dX5_readSlack_9 : decode cX5_readSlack 9 = .ok (.invokevirtual 106, 3) := by decide +kernel
theorem dX5_readSlack_12 : decode cX5_readSlack 12 = .ok (.ireturn, 1) := by decide +kernel
theorem dX5_readSlack_13 : decode cX5_readSlack 13 = .ok (.aload_n 0, 1) := by decide +kernel
theorem dX5_readSlack_14 : decode cX5_readSlack 14 = .ok (.iconst 1, 1) := by decide +kernel
theorem dX5_readSlack_15 : decode cX5_readSlack 15 = .ok (.putfield 46, 3) := by decide +kernel
theorem dX5_readSlack_18 : decode cX5_readSlack 18 = .ok (.aload_n 0, 1) := by decide +kernel
theorem dX5_readSlack_19 : decode cX5_readSlack 19 = .ok (.getfield 12, 3) := by decide +kernel
theorem dX5_readSlack_22 : decode cX5_readSlack 22 = .ok (.invokevirtual 110, 3) := by decide +kernel
theorem dX5_readSlack_25 : decode cX5_readSlack 25 = .ok (.aload_n 0, 1) := by decide +kernel
theorem dX5_readSlack_26 : decode cX5_readSlack 26 = .ok (.iconst 0, 1) := by decide +kernel
theorem dX5_readSlack_27 : decode cX5_readSlack 27 = .ok (.sipush 999, 3) := by decide +kernel
theorem dX5_readSlack_30 : decode cX5_readSlack 30 = .ok (.invokevirtual 119, 3) := by decide +kernel
theorem dX5_readSlack_33 : decode cX5_readSlack 33 = .ok (.ifCond .ne 5, 3) := by decide +kernel
theorem dX5_readSlack_36 : decode cX5_readSlack 36 = .ok (.iconst 0, 1) := by decide +kernel
theorem dX5_readSlack_37 : decode cX5_readSlack 37 = .ok (.ireturn, 1) := by decide +kernel
theorem dX5_readSlack_38 : decode cX5_readSlack 38 = .ok (.aload_n 0, 1) := by decide +kernel
theorem dX5_readSlack_39 : decode cX5_readSlack 39 = .ok (.getfield 28, 3) := by decide +kernel
theorem dX5_readSlack_42 : decode cX5_readSlack 42 = .ok (.aload_n 0, 1) := by decide +kernel
theorem dX5_readSlack_43 : decode cX5_readSlack 43 = .ok (.getfield 12, 3) := by decide +kernel
theorem dX5_readSlack_46 : decode cX5_readSlack 46 = .ok (.getfield 113, 3) := by decide +kernel
theorem dX5_readSlack_49 : decode cX5_readSlack 49 = .ok (.putfield 131, 3) := by decide +kernel
theorem dX5_readSlack_52 : decode cX5_readSlack 52 = .ok (.aload_n 0, 1) := by decide +kernel
theorem dX5_readSlack_53 : decode cX5_readSlack 53 = .ok (.getfield 12, 3) := by decide +kernel
theorem dX5_readSlack_56 : decode cX5_readSlack 56 = .ok (.invokevirtual 110, 3) := by decide +kernel
theorem dX5_readSlack_59 : decode cX5_readSlack 59 = .ok (.iconst 1, 1) := by decide +kernel
theorem dX5_readSlack_60 : decode cX5_readSlack 60 = .ok (.ireturn, 1) := by decide +kernel
theorem dX5_readBody_0 : decode cX5_readBody 0 = .ok (.aload_n 0, 1) := by decide +kernel
theorem dX5_readBody_1 : decode cX5_readBody 1 = .ok (.getfield 21, 3) := by decide +kernel
theorem dX5_readBody_4 : decode cX5_readBody 4 = .ok (.getfield 134, 3) := by decide +kernel
theorem dX5_readBody_7 : decode cX5_readBody 7 = .ok (.bipush 8, 2) := by decide +kernel
theorem dX5_readBody_9 : decode cX5_readBody 9 = .ok (.if_icmp .lt 9, 3) := by decide +kernel
theorem dX5_readBody_12 : decode cX5_readBody 12 = .ok (.aload_n 0, 1) := by decide +kernel
theorem dX5_readBody_13 : decode cX5_readBody 13 = .ok (.iconst 4, 1) := by decide +kernel
theorem dX5_readBody_14 : decode cX5_readBody 14 = .ok (.invokevirtual 106, 3) := by decide +kernel
theorem dX5_readBody_17 : decode cX5_readBody 17 = .ok (.ireturn, 1) := by decide +kernel
theorem dX5_readBody_18 : decode cX5_readBody 18 = .ok (.aload_n 0, 1) := by decide +kernel
theorem dX5_readBody_19 : decode cX5_readBody 19 = .ok (.getfield 12, 3) := by decide +kernel
theorem dX5_readBody_22 : decode cX5_readBody 22 = .ok (.invokevirtual 110, 3) := by decide +kernel
theorem dX5_readBody_25 : decode cX5_readBody 25 = .ok (.aload_n 0, 1) := by decide +kernel
theorem dX5_readBody_26 : decode cX5_readBody 26 = .ok (.invokevirtual 137, 3) := by decide +kernel
theorem dX5_readBody_29 : decode cX5_readBody 29 = .ok (.ifCond .ne 5, 3) := by decide +kernel
theorem dX5_readBody_32 : decode cX5_readBody 32 = .ok (.iconst 0, 1) := by decide +kernel
theorem dX5_readBody_33 : decode cX5_readBody 33 = .ok (.ireturn, 1) := by decide +kernel
theorem dX5_readBody_34 : decode cX5_readBody 34 = .ok (.aload_n 0, 1) := by decide +kernel
theorem dX5_readBody_35 : decode cX5_readBody 35 = .ok (.getfield 12, 3) := by decide +kernel
theorem dX5_readBody_38 : decode cX5_readBody 38 = .ok (.getfield 140, 3) := by decide +kernel
theorem dX5_readBody_41 : decode cX5_readBody 41 = .ok (.lstore_n 1, 1) := by decide +kernel
theorem dX5_readBody_42 : decode cX5_readBody 42 = .ok (.aload_n 0, 1) := by decide +kernel
theorem dX5_readBody_43 : decode cX5_readBody 43 = .ok (.getfield 21, 3) := by decide +kernel
theorem dX5_readBody_46 : decode cX5_readBody 46 = .ok (.lload_n 1, 1) := by decide +kernel
theorem dX5_readBody_47 : decode cX5_readBody 47 = .ok (.invokevirtual 144, 3) := by decide +kernel
theorem dX5_readBody_50 : decode cX5_readBody 50 = .ok (.ifCond .lt 9, 3) := by decide +kernel
theorem dX5_readBody_53 : decode cX5_readBody 53 = .ok (.aload_n 0, 1) := by decide +kernel
theorem dX5_readBody_54 : decode cX5_readBody 54 = .ok (.iconst 3, 1) := by decide +kernel
theorem dX5_readBody_55 : decode cX5_readBody 55 = .ok (.invokevirtual 106, 3) := by decide +kernel
theorem dX5_readBody_58 : decode cX5_readBody 58 = .ok (.ireturn, 1) := by decide +kernel
theorem dX5_readBody_59 : decode cX5_readBody 59 = .ok (.aload_n 0, 1) := by decide +kernel
theorem dX5_readBody_60 : decode cX5_readBody 60 = .ok (.getfield 12, 3) := by decide +kernel
theorem dX5_readBody_63 : decode cX5_readBody 63 = .ok (.invokevirtual 110, 3) := by decide +kernel
theorem dX5_readBody_66 : decode cX5_readBody 66 = .ok (.aload_n 0, 1) := by decide +kernel
theorem dX5_readBody_67 : decode cX5_readBody 67 = .ok (.getfield 12, 3) := by decide +kernel
theorem dX5_readBody_70 : decode cX5_readBody 70 = .ok (.getstatic 148, 3) := by decide +kernel
theorem dX5_readBody_73 : decode cX5_readBody 73 = .ok (.invokevirtual 75, 3) := by decide +kernel
theorem dX5_readBody_76 : decode cX5_readBody 76 = .ok (.ifCond .ne 9, 3) := by decide +kernel
theorem dX5_readBody_79 : decode cX5_readBody 79 = .ok (.aload_n 0, 1) := by decide +kernel
theorem dX5_readBody_80 : decode cX5_readBody 80 = .ok (.iconst 1, 1) := by decide +kernel
theorem dX5_readBody_81 : decode cX5_readBody 81 = .ok (.invokevirtual 106, 3) := by decide +kernel
theorem dX5_readBody_84 : decode cX5_readBody 84 = .ok (.ireturn, 1) := by decide +kernel
theorem dX5_readBody_85 : decode cX5_readBody 85 = .ok (.aload_n 0, 1) := by decide +kernel
theorem dX5_readBody_86 : decode cX5_readBody 86 = .ok (.getfield 12, 3) := by decide +kernel
theorem dX5_readBody_89 : decode cX5_readBody 89 = .ok (.invokevirtual 110, 3) := by decide +kernel
theorem dX5_readBody_92 : decode cX5_readBody 92 = .ok (.aload_n 0, 1) := by decide +kernel
theorem dX5_readBody_93 : decode cX5_readBody 93 = .ok (.bipush 100, 2) := by decide +kernel
theorem dX5_readBody_95 : decode cX5_readBody 95 = .ok (.ldc 151, 2) := by decide +kernel
theorem dX5_readBody_97 : decode cX5_readBody 97 = .ok (.invokevirtual 119, 3) := by decide +kernel
theorem dX5_readBody_100 : decode cX5_readBody 100 = .ok (.ifCond .ne 5, 3) := by decide +kernel
theorem dX5_readBody_103 : decode cX5_readBody 103 = .ok (.iconst 0, 1) := by decide +kernel
theorem dX5_readBody_104 : decode cX5_readBody 104 = .ok (.ireturn, 1) := by decide +kernel
theorem dX5_readBody_105 : decode cX5_readBody 105 = .ok (.aload_n 0, 1) := by decide +kernel
theorem dX5_readBody_106 : decode cX5_readBody 106 = .ok (.getfield 12, 3) := by decide +kernel
theorem dX5_readBody_109 : decode cX5_readBody 109 = .ok (.getfield 113, 3) := by decide +kernel
theorem dX5_readBody_112 : decode cX5_readBody 112 = .ok (.istore_n 3, 1) := by decide +kernel
theorem dX5_readBody_113 : decode cX5_readBody 113 = .ok (.aload_n 0, 1) := by decide +kernel
theorem dX5_readBody_114 : decode cX5_readBody 114 = .ok (.getfield 12, 3) := by decide +kernel
theorem dX5_readBody_117 : decode cX5_readBody 117 = .ok (.invokevirtual 110, 3) := by decide +kernel
theorem dX5_readBody_120 : decode cX5_readBody 120 = .ok (.aload_n 0, 1) := by decide +kernel
theorem dX5_readBody_121 : decode cX5_readBody 121 = .ok (.getfield 12, 3) := by decide +kernel
theorem dX5_readBody_124 : decode cX5_readBody 124 = .ok (.getstatic 152, 3) := by decide +kernel
theorem dX5_readBody_127 : decode cX5_readBody 127 = .ok (.invokevirtual 75, 3) := by decide +kernel
theorem dX5_readBody_130 : decode cX5_readBody 130 = .ok (.istore 4, 2) := by decide +kernel
theorem dX5_readBody_132 : decode cX5_readBody 132 = .ok (.iload 4, 2) := by decide +kernel
theorem dX5_readBody_134 : decode cX5_readBody 134 = .ok (.ifCond .eq 10, 3) := by decide +kernel
theorem dX5_readBody_137 : decode cX5_readBody 137 = .ok (.aload_n 0, 1) := by decide +kernel
theorem dX5_readBody_138 : decode cX5_readBody 138 = .ok (.getfield 12, 3) := by decide +kernel
theorem dX5_readBody_141 : decode cX5_readBody 141 = .ok (.invokevirtual 110, 3) := by decide +kernel
theorem dX5_readBody_144 : decode cX5_readBody 144 = .ok (.aload_n 0, 1) := by decide +kernel
theorem dX5_readBody_145 : decode cX5_readBody 145 = .ok (.getfield 12, 3) := by decide +kernel
theorem dX5_readBody_148 : decode cX5_readBody 148 = .ok (.getstatic 155, 3) := by decide +kernel
theorem dX5_readBody_151 : decode cX5_readBody 151 = .ok (.invokevirtual 75, 3) := by decide +kernel
theorem dX5_readBody_154 : decode cX5_readBody 154 = .ok (.ifCond .ne 17, 3) := by decide +kernel
theorem dX5_readBody_157 : decode cX5_readBody 157 = .ok (.aload_n 0, 1) := by decide +kernel
theorem dX5_readBody_158 : decode cX5_readBody 158 = .ok (.getfield 21, 3) := by decide +kernel
theorem dX5_readBody_161 : decode cX5_readBody 161 = .ok (.lload_n 1, 1) := by decide +kernel
theorem dX5_readBody_162 : decode cX5_readBody 162 = .ok (.iload_n 3, 1) := by decide +kernel
theorem dX5_readBody_163 : decode cX5_readBody 163 = .ok (.iload 4, 2) := by decide +kernel
theorem dX5_readBody_165 : decode cX5_readBody 165 = .ok (.iconst (-1), 1) := by decide +kernel
theorem dX5_readBody_166 : decode cX5_readBody 166 = .ok (.invokevirtual 158, 3) := by decide +kernel
theorem dX5_readBody_169 : decode cX5_readBody 169 = .ok (.iconst 1, 1) := by decide +kernel
theorem dX5_readBody_170 : decode cX5_readBody 170 = .ok (.ireturn, 1) := by decide +kernel
theorem dX5_readBody_171 : decode cX5_readBody 171 = .ok (.aload_n 0, 1) := by decide +kernel
theorem dX5_readBody_172 : decode cX5_readBody 172 = .ok (.getfield 12, 3) := by decide +kernel
theorem dX5_readBody_175 : decode cX5_readBody 175 = .ok (.invokevirtual 110, 3) := by decide +kernel
theorem dX5_readBody_178 : decode cX5_readBody 178 = .ok (.aload_n 0, 1) := by decide +kernel
theorem dX5_readBody_179 : decode cX5_readBody 179 = .ok (.invokevirtual 137, 3) := by decide +kernel
theorem dX5_readBody_182 : decode cX5_readBody 182 = .ok (.ifCond .ne 5, 3) := by decide +kernel
theorem dX5_readBody_185 : decode cX5_readBody 185 = .ok (.iconst 0, 1) := by decide +kernel
theorem dX5_readBody_186 : decode cX5_readBody 186 = .ok (.ireturn, 1) := by decide +kernel
theorem dX5_readBody_187 : decode cX5_readBody 187 = .ok (.aload_n 0, 1) := by decide +kernel
theorem dX5_readBody_188 : decode cX5_readBody 188 = .ok (.getfield 21, 3) := by decide +kernel
theorem dX5_readBody_191 : decode cX5_readBody 191 = .ok (.aload_n 0, 1) := by decide +kernel
theorem dX5_readBody_192 : decode cX5_readBody 192 = .ok (.getfield 12, 3) := by decide +kernel
theorem dX5_readBody_195 : decode cX5_readBody 195 = .ok (.getfield 140, 3) := by decide +kernel
theorem dX5_readBody_198 : decode cX5_readBody 198 = .ok (.invokevirtual 144, 3) := by decide +kernel
theorem dX5_readBody_201 : decode cX5_readBody 201 = .ok (.istore 5, 2) := by decide +kernel
theorem dX5_readBody_203 : decode cX5_readBody 203 = .ok (.iload 5, 2) := by decide +kernel
theorem dX5_readBody_205 : decode cX5_readBody 205 = .ok (.ifCond .lt 16, 3) := by decide +kernel
theorem dX5_readBody_208 : decode cX5_readBody 208 = .ok (.aload_n 0, 1) := by decide +kernel
theorem dX5_readBody_209 : decode cX5_readBody 209 = .ok (.getfield 21, 3) := by decide +kernel
theorem dX5_readBody_212 : decode cX5_readBody 212 = .ok (.getfield 162, 3) := by decide +kernel
theorem dX5_readBody_215 : decode cX5_readBody 215 = .ok (.iload 5, 2) := by decide +kernel
theorem dX5_readBody_217 : decode cX5_readBody 217 = .ok (.iaload, 1) := by decide +kernel
theorem dX5_readBody_218 : decode cX5_readBody 218 = .ok (.ifCond .lt 9, 3) := by decide +kernel
theorem dX5_readBody_221 : decode cX5_readBody 221 = .ok (.aload_n 0, 1) := by decide +kernel
theorem dX5_readBody_222 : decode cX5_readBody 222 = .ok (.iconst 3, 1) := by decide +kernel
theorem dX5_readBody_223 : decode cX5_readBody 223 = .ok (.invokevirtual 106, 3) := by decide +kernel
theorem dX5_readBody_226 : decode cX5_readBody 226 = .ok (.ireturn, 1) := by decide +kernel
theorem dX5_readBody_227 : decode cX5_readBody 227 = .ok (.aload_n 0, 1) := by decide +kernel
theorem dX5_readBody_228 : decode cX5_readBody 228 = .ok (.getfield 21, 3) := by decide +kernel
theorem dX5_readBody_231 : decode cX5_readBody 231 = .ok (.lload_n 1, 1) := by decide +kernel
theorem dX5_readBody_232 : decode cX5_readBody 232 = .ok (.iload_n 3, 1) := by decide +kernel
theorem dX5_readBody_233 : decode cX5_readBody 233 = .ok (.iload 4, 2) := by decide +kernel
theorem dX5_readBody_235 : decode cX5_readBody 235 = .ok (.iload 5, 2) := by decide +kernel
theorem dX5_readBody_237 : decode cX5_readBody 237 = .ok (.invokevirtual 158, 3) := by decide +kernel
theorem dX5_readBody_240 : decode cX5_readBody 240 = .ok (.aload_n 0, 1) := by decide +kernel
theorem dX5_readBody_241 : decode cX5_readBody 241 = .ok (.getfield 12, 3) := by decide +kernel
theorem dX5_readBody_244 : decode cX5_readBody 244 = .ok (.invokevirtual 110, 3) := by decide +kernel
theorem dX5_readBody_247 : decode cX5_readBody 247 = .ok (.iconst 1, 1) := by decide +kernel
theorem dX5_readBody_248 : decode cX5_readBody 248 = .ok (.ireturn, 1) := by decide +kernel
theorem dX5_readTrain_0 : decode cX5_readTrain 0 = .ok (.aload_n 0, 1) := by decide +kernel
theorem dX5_readTrain_1 : decode cX5_readTrain 1 = .ok (.getfield 12, 3) := by decide +kernel
theorem dX5_readTrain_4 : decode cX5_readTrain 4 = .ok (.invokevirtual 110, 3) := by decide +kernel
theorem dX5_readTrain_7 : decode cX5_readTrain 7 = .ok (.aload_n 0, 1) := by decide +kernel
theorem dX5_readTrain_8 : decode cX5_readTrain 8 = .ok (.invokevirtual 137, 3) := by decide +kernel
theorem dX5_readTrain_11 : decode cX5_readTrain 11 = .ok (.ifCond .ne 5, 3) := by decide +kernel
theorem dX5_readTrain_14 : decode cX5_readTrain 14 = .ok (.iconst 0, 1) := by decide +kernel
theorem dX5_readTrain_15 : decode cX5_readTrain 15 = .ok (.ireturn, 1) := by decide +kernel
theorem dX5_readTrain_16 : decode cX5_readTrain 16 = .ok (.aload_n 0, 1) := by decide +kernel
theorem dX5_readTrain_17 : decode cX5_readTrain 17 = .ok (.getfield 21, 3) := by decide +kernel
theorem dX5_readTrain_20 : decode cX5_readTrain 20 = .ok (.aload_n 0, 1) := by decide +kernel
theorem dX5_readTrain_21 : decode cX5_readTrain 21 = .ok (.getfield 12, 3) := by decide +kernel
theorem dX5_readTrain_24 : decode cX5_readTrain 24 = .ok (.getfield 140, 3) := by decide +kernel
theorem dX5_readTrain_27 : decode cX5_readTrain 27 = .ok (.invokevirtual 144, 3) := by decide +kernel
theorem dX5_readTrain_30 : decode cX5_readTrain 30 = .ok (.istore_n 1, 1) := by decide +kernel
theorem dX5_readTrain_31 : decode cX5_readTrain 31 = .ok (.iload_n 1, 1) := by decide +kernel
theorem dX5_readTrain_32 : decode cX5_readTrain 32 = .ok (.ifCond .ge 9, 3) := by decide +kernel
theorem dX5_readTrain_35 : decode cX5_readTrain 35 = .ok (.aload_n 0, 1) := by decide +kernel
theorem dX5_readTrain_36 : decode cX5_readTrain 36 = .ok (.iconst 3, 1) := by decide +kernel
theorem dX5_readTrain_37 : decode cX5_readTrain 37 = .ok (.invokevirtual 106, 3) := by decide +kernel
theorem dX5_readTrain_40 : decode cX5_readTrain 40 = .ok (.ireturn, 1) := by decide +kernel
theorem dX5_readTrain_41 : decode cX5_readTrain 41 = .ok (.aload_n 0, 1) := by decide +kernel
theorem dX5_readTrain_42 : decode cX5_readTrain 42 = .ok (.getfield 28, 3) := by decide +kernel
theorem dX5_readTrain_45 : decode cX5_readTrain 45 = .ok (.getfield 166, 3) := by decide +kernel
theorem dX5_readTrain_48 : decode cX5_readTrain 48 = .ok (.iload_n 1, 1) := by decide +kernel
theorem dX5_readTrain_49 : decode cX5_readTrain 49 = .ok (.aaload, 1) := by decide +kernel
theorem dX5_readTrain_50 : decode cX5_readTrain 50 = .ok (.astore_n 2, 1) := by decide +kernel
theorem dX5_readTrain_51 : decode cX5_readTrain 51 = .ok (.aload_n 2, 1) := by decide +kernel
theorem dX5_readTrain_52 : decode cX5_readTrain 52 = .ok (.getfield 170, 3) := by decide +kernel
theorem dX5_readTrain_55 : decode cX5_readTrain 55 = .ok (.ifCond .le 9, 3) := by decide +kernel
theorem dX5_readTrain_58 : decode cX5_readTrain 58 = .ok (.aload_n 0, 1) := by decide +kernel
theorem dX5_readTrain_59 : decode cX5_readTrain 59 = .ok (.iconst 4, 1) := by decide +kernel
theorem dX5_readTrain_60 : decode cX5_readTrain 60 = .ok (.invokevirtual 106, 3) := by decide +kernel
theorem dX5_readTrain_63 : decode cX5_readTrain 63 = .ok (.ireturn, 1) := by decide +kernel
theorem dX5_readTrain_64 : decode cX5_readTrain 64 = .ok (.aload_n 0, 1) := by decide +kernel
theorem dX5_readTrain_65 : decode cX5_readTrain 65 = .ok (.getfield 12, 3) := by decide +kernel
theorem dX5_readTrain_68 : decode cX5_readTrain 68 = .ok (.invokevirtual 110, 3) := by decide +kernel
theorem dX5_readTrain_71 : decode cX5_readTrain 71 = .ok (.iconst 0, 1) := by decide +kernel
theorem dX5_readTrain_72 : decode cX5_readTrain 72 = .ok (.istore_n 3, 1) := by decide +kernel
theorem dX5_readTrain_73 : decode cX5_readTrain 73 = .ok (.iload_n 3, 1) := by decide +kernel
theorem dX5_readTrain_74 : decode cX5_readTrain 74 = .ok (.iconst 4, 1) := by decide +kernel
theorem dX5_readTrain_75 : decode cX5_readTrain 75 = .ok (.if_icmp .gt 30, 3) := by decide +kernel
theorem dX5_readTrain_78 : decode cX5_readTrain 78 = .ok (.iload_n 3, 1) := by decide +kernel
theorem dX5_readTrain_79 : decode cX5_readTrain 79 = .ok (.ifCond .eq 10, 3) := by decide +kernel
theorem dX5_readTrain_82 : decode cX5_readTrain 82 = .ok (.aload_n 0, 1) := by decide +kernel
theorem dX5_readTrain_83 : decode cX5_readTrain 83 = .ok (.invokevirtual 175, 3) := by decide +kernel
theorem dX5_readTrain_86 : decode cX5_readTrain 86 = .ok (.ifCond .lt 19, 3) := by decide +kernel
theorem dX5_readTrain_89 : decode cX5_readTrain 89 = .ok (.aload_n 0, 1) := by decide +kernel
theorem dX5_readTrain_90 : decode cX5_readTrain 90 = .ok (.aload_n 2, 1) := by decide +kernel
theorem dX5_readTrain_91 : decode cX5_readTrain 91 = .ok (.invokevirtual 179, 3) := by decide +kernel
theorem dX5_readTrain_94 : decode cX5_readTrain 94 = .ok (.ifCond .ne 5, 3) := by decide +kernel
theorem dX5_readTrain_97 : decode cX5_readTrain 97 = .ok (.iconst 0, 1) := by decide +kernel
theorem dX5_readTrain_98 : decode cX5_readTrain 98 = .ok (.ireturn, 1) := by decide +kernel
theorem dX5_readTrain_99 : decode cX5_readTrain 99 = .ok (.iinc 3 1, 3) := by decide +kernel
theorem dX5_readTrain_102 : decode cX5_readTrain 102 = .ok (.goto (-29), 3) := by decide +kernel
theorem dX5_readTrain_105 : decode cX5_readTrain 105 = .ok (.iconst 1, 1) := by decide +kernel
theorem dX5_readTrain_106 : decode cX5_readTrain 106 = .ok (.ireturn, 1) := by decide +kernel
theorem dX5_kindOfPart_0 : decode cX5_kindOfPart 0 = .ok (.aload_n 0, 1) := by decide +kernel
theorem dX5_kindOfPart_1 : decode cX5_kindOfPart 1 = .ok (.getfield 12, 3) := by decide +kernel
theorem dX5_kindOfPart_4 : decode cX5_kindOfPart 4 = .ok (.getstatic 183, 3) := by decide +kernel
theorem dX5_kindOfPart_7 : decode cX5_kindOfPart 7 = .ok (.invokevirtual 75, 3) := by decide +kernel
theorem dX5_kindOfPart_10 : decode cX5_kindOfPart 10 = .ok (.ifCond .eq 5, 3) := by decide +kernel
theorem dX5_kindOfPart_13 : decode cX5_kindOfPart 13 = .ok (.iconst 0, 1) := by decide +kernel
theorem dX5_kindOfPart_14 : decode cX5_kindOfPart 14 = .ok (.ireturn, 1) := by decide +kernel
theorem dX5_kindOfPart_15 : decode cX5_kindOfPart 15 = .ok (.aload_n 0, 1) := by decide +kernel
theorem dX5_kindOfPart_16 : decode cX5_kindOfPart 16 = .ok (.getfield 12, 3) := by decide +kernel
theorem dX5_kindOfPart_19 : decode cX5_kindOfPart 19 = .ok (.getstatic 186, 3) := by decide +kernel
theorem dX5_kindOfPart_22 : decode cX5_kindOfPart 22 = .ok (.invokevirtual 75, 3) := by decide +kernel
theorem dX5_kindOfPart_25 : decode cX5_kindOfPart 25 = .ok (.ifCond .eq 5, 3) := by decide +kernel
theorem dX5_kindOfPart_28 : decode cX5_kindOfPart 28 = .ok (.iconst 1, 1) := by decide +kernel
theorem dX5_kindOfPart_29 : decode cX5_kindOfPart 29 = .ok (.ireturn, 1) := by decide +kernel
theorem dX5_kindOfPart_30 : decode cX5_kindOfPart 30 = .ok (.aload_n 0, 1) := by decide +kernel
theorem dX5_kindOfPart_31 : decode cX5_kindOfPart 31 = .ok (.getfield 12, 3) := by decide +kernel
theorem dX5_kindOfPart_34 : decode cX5_kindOfPart 34 = .ok (.getstatic 189, 3) := by decide +kernel
theorem dX5_kindOfPart_37 : decode cX5_kindOfPart 37 = .ok (.invokevirtual 75, 3) := by decide +kernel
theorem dX5_kindOfPart_40 : decode cX5_kindOfPart 40 = .ok (.ifCond .eq 7, 3) := by decide +kernel
theorem dX5_kindOfPart_43 : decode cX5_kindOfPart 43 = .ok (.iconst 2, 1) := by decide +kernel
theorem dX5_kindOfPart_44 : decode cX5_kindOfPart 44 = .ok (.goto 4, 3) := by decide +kernel
theorem dX5_kindOfPart_47 : decode cX5_kindOfPart 47 = .ok (.iconst (-1), 1) := by decide +kernel
theorem dX5_kindOfPart_48 : decode cX5_kindOfPart 48 = .ok (.ireturn, 1) := by decide +kernel
theorem dX5_readPart_0 : decode cX5_readPart 0 = .ok (.aload_n 0, 1) := by decide +kernel
theorem dX5_readPart_1 : decode cX5_readPart 1 = .ok (.invokevirtual 175, 3) := by decide +kernel
theorem dX5_readPart_4 : decode cX5_readPart 4 = .ok (.istore_n 2, 1) := by decide +kernel
theorem dX5_readPart_5 : decode cX5_readPart 5 = .ok (.iload_n 2, 1) := by decide +kernel
theorem dX5_readPart_6 : decode cX5_readPart 6 = .ok (.ifCond .ge 9, 3) := by decide +kernel
theorem dX5_readPart_9 : decode cX5_readPart 9 = .ok (.aload_n 0, 1) := by decide +kernel
theorem dX5_readPart_10 : decode cX5_readPart 10 = .ok (.iconst 1, 1) := by decide +kernel
theorem dX5_readPart_11 : decode cX5_readPart 11 = .ok (.invokevirtual 106, 3) := by decide +kernel
theorem dX5_readPart_14 : decode cX5_readPart 14 = .ok (.ireturn, 1) := by decide +kernel
theorem dX5_readPart_15 : decode cX5_readPart 15 = .ok (.aload_n 1, 1) := by decide +kernel
theorem dX5_readPart_16 : decode cX5_readPart 16 = .ok (.iload_n 2, 1) := by decide +kernel
theorem dX5_readPart_17 : decode cX5_readPart 17 = .ok (.invokevirtual 192, 3) := by decide +kernel
theorem dX5_readPart_20 : decode cX5_readPart 20 = .ok (.ifCond .ne 9, 3) := by decide +kernel
theorem dX5_readPart_23 : decode cX5_readPart 23 = .ok (.aload_n 0, 1) := by decide +kernel
theorem dX5_readPart_24 : decode cX5_readPart 24 = .ok (.iconst 4, 1) := by decide +kernel
theorem dX5_readPart_25 : decode cX5_readPart 25 = .ok (.invokevirtual 106, 3) := by decide +kernel
theorem dX5_readPart_28 : decode cX5_readPart 28 = .ok (.ireturn, 1) := by decide +kernel
theorem dX5_readPart_29 : decode cX5_readPart 29 = .ok (.aload_n 0, 1) := by decide +kernel
theorem dX5_readPart_30 : decode cX5_readPart 30 = .ok (.getfield 12, 3) := by decide +kernel
theorem dX5_readPart_33 : decode cX5_readPart 33 = .ok (.invokevirtual 110, 3) := by decide +kernel
theorem dX5_readPart_36 : decode cX5_readPart 36 = .ok (.aload_n 0, 1) := by decide +kernel
theorem dX5_readPart_37 : decode cX5_readPart 37 = .ok (.bipush 8, 2) := by decide +kernel
theorem dX5_readPart_39 : decode cX5_readPart 39 = .ok (.bipush 100, 2) := by decide +kernel
theorem dX5_readPart_41 : decode cX5_readPart 41 = .ok (.invokevirtual 119, 3) := by decide +kernel
theorem dX5_readPart_44 : decode cX5_readPart 44 = .ok (.ifCond .ne 5, 3) := by decide +kernel
theorem dX5_readPart_47 : decode cX5_readPart 47 = .ok (.iconst 0, 1) := by decide +kernel
theorem dX5_readPart_48 : decode cX5_readPart 48 = .ok (.ireturn, 1) := by decide +kernel
theorem dX5_readPart_49 : decode cX5_readPart 49 = .ok (.aload_n 0, 1) := by decide +kernel
theorem dX5_readPart_50 : decode cX5_readPart 50 = .ok (.getfield 12, 3) := by decide +kernel
theorem dX5_readPart_53 : decode cX5_readPart 53 = .ok (.getfield 113, 3) := by decide +kernel
theorem dX5_readPart_56 : decode cX5_readPart 56 = .ok (.istore_n 3, 1) := by decide +kernel
theorem dX5_readPart_57 : decode cX5_readPart 57 = .ok (.aload_n 0, 1) := by decide +kernel
theorem dX5_readPart_58 : decode cX5_readPart 58 = .ok (.getfield 12, 3) := by decide +kernel
theorem dX5_readPart_61 : decode cX5_readPart 61 = .ok (.invokevirtual 110, 3) := by decide +kernel
theorem dX5_readPart_64 : decode cX5_readPart 64 = .ok (.iload_n 2, 1) := by decide +kernel
theorem dX5_readPart_65 : decode cX5_readPart 65 = .ok (.iconst 2, 1) := by decide +kernel
theorem dX5_readPart_66 : decode cX5_readPart 66 = .ok (.if_icmp .ne 12, 3) := by decide +kernel
theorem dX5_readPart_69 : decode cX5_readPart 69 = .ok (.aload_n 1, 1) := by decide +kernel
theorem dX5_readPart_70 : decode cX5_readPart 70 = .ok (.iload_n 2, 1) := by decide +kernel
theorem dX5_readPart_71 : decode cX5_readPart 71 = .ok (.iload_n 3, 1) := by decide +kernel
theorem dX5_readPart_72 : decode cX5_readPart 72 = .ok (.iconst 0, 1) := by decide +kernel
theorem dX5_readPart_73 : decode cX5_readPart 73 = .ok (.invokevirtual 195, 3) := by decide +kernel
theorem dX5_readPart_76 : decode cX5_readPart 76 = .ok (.iconst 1, 1) := by decide +kernel
theorem dX5_readPart_77 : decode cX5_readPart 77 = .ok (.ireturn, 1) := by decide +kernel
theorem dX5_readPart_78 : decode cX5_readPart 78 = .ok (.aload_n 0, 1) := by decide +kernel
theorem dX5_readPart_79 : decode cX5_readPart 79 = .ok (.bipush 8, 2) := by decide +kernel
theorem dX5_readPart_81 : decode cX5_readPart 81 = .ok (.bipush 100, 2) := by decide +kernel
theorem dX5_readPart_83 : decode cX5_readPart 83 = .ok (.invokevirtual 119, 3) := by decide +kernel
theorem dX5_readPart_86 : decode cX5_readPart 86 = .ok (.ifCond .ne 5, 3) := by decide +kernel
theorem dX5_readPart_89 : decode cX5_readPart 89 = .ok (.iconst 0, 1) := by decide +kernel
theorem dX5_readPart_90 : decode cX5_readPart 90 = .ok (.ireturn, 1) := by decide +kernel
theorem dX5_readPart_91 : decode cX5_readPart 91 = .ok (.aload_n 1, 1) := by decide +kernel
theorem dX5_readPart_92 : decode cX5_readPart 92 = .ok (.iload_n 2, 1) := by decide +kernel
theorem dX5_readPart_93 : decode cX5_readPart 93 = .ok (.iload_n 3, 1) := by decide +kernel
theorem dX5_readPart_94 : decode cX5_readPart 94 = .ok (.aload_n 0, 1) := by decide +kernel
theorem dX5_readPart_95 : decode cX5_readPart 95 = .ok (.getfield 12, 3) := by decide +kernel
theorem dX5_readPart_98 : decode cX5_readPart 98 = .ok (.getfield 113, 3) := by decide +kernel
theorem dX5_readPart_101 : decode cX5_readPart 101 = .ok (.invokevirtual 195, 3) := by decide +kernel
theorem dX5_readPart_104 : decode cX5_readPart 104 = .ok (.aload_n 0, 1) := by decide +kernel
theorem dX5_readPart_105 : decode cX5_readPart 105 = .ok (.getfield 12, 3) := by decide +kernel
theorem dX5_readPart_108 : decode cX5_readPart 108 = .ok (.invokevirtual 110, 3) := by decide +kernel
theorem dX5_readPart_111 : decode cX5_readPart 111 = .ok (.iconst 1, 1) := by decide +kernel
theorem dX5_readPart_112 : decode cX5_readPart 112 = .ok (.ireturn, 1) := by decide +kernel
theorem dX6_init_0 : decode cX6_init 0 = .ok (.aload_n 0, 1) := by decide +kernel
theorem dX6_init_1 : decode cX6_init 1 = .ok (.invokespecial 3, 3) := by decide +kernel
theorem dX6_init_4 : decode cX6_init 4 = .ok (.aload_n 0, 1) := by decide +kernel
theorem dX6_init_5 : decode cX6_init 5 = .ok (.bipush 16, 2) := by decide +kernel
theorem dX6_init_7 : decode cX6_init 7 = .ok (.newarray .int, 2) := by decide +kernel
theorem dX6_init_9 : decode cX6_init 9 = .ok (.putfield 9, 3) := by decide +kernel
theorem dX6_init_12 : decode cX6_init 12 = .ok (.aload_n 0, 1) := by decide +kernel
theorem dX6_init_13 : decode cX6_init 13 = .ok (.iconst 0, 1) := by decide +kernel
theorem dX6_init_14 : decode cX6_init 14 = .ok (.putfield 15, 3) := by decide +kernel
theorem dX6_init_17 : decode cX6_init 17 = .ok (.aload_n 0, 1) := by decide +kernel
theorem dX6_init_18 : decode cX6_init 18 = .ok (.bipush 60, 2) := by decide +kernel
theorem dX6_init_20 : decode cX6_init 20 = .ok (.putfield 19, 3) := by decide +kernel
theorem dX6_init_23 : decode cX6_init 23 = .ok (.aload_n 0, 1) := by decide +kernel
theorem dX6_init_24 : decode cX6_init 24 = .ok (.iconst 0, 1) := by decide +kernel
theorem dX6_init_25 : decode cX6_init 25 = .ok (.putfield 22, 3) := by decide +kernel
theorem dX6_init_28 : decode cX6_init 28 = .ok (.aload_n 0, 1) := by decide +kernel
theorem dX6_init_29 : decode cX6_init 29 = .ok (.bipush 8, 2) := by decide +kernel
theorem dX6_init_31 : decode cX6_init 31 = .ok (.newarray .int, 2) := by decide +kernel
theorem dX6_init_33 : decode cX6_init 33 = .ok (.putfield 25, 3) := by decide +kernel
theorem dX6_init_36 : decode cX6_init 36 = .ok (.aload_n 0, 1) := by decide +kernel
theorem dX6_init_37 : decode cX6_init 37 = .ok (.bipush 8, 2) := by decide +kernel
theorem dX6_init_39 : decode cX6_init 39 = .ok (.anewarray 28, 3) := by decide +kernel
theorem dX6_init_42 : decode cX6_init 42 = .ok (.putfield 30, 3) := by decide +kernel
theorem dX6_init_45 : decode cX6_init 45 = .ok (.iconst 0, 1) := by decide +kernel
theorem dX6_init_46 : decode cX6_init 46 = .ok (.istore_n 1, 1) := by decide +kernel
theorem dX6_init_47 : decode cX6_init 47 = .ok (.iload_n 1, 1) := by decide +kernel
theorem dX6_init_48 : decode cX6_init 48 = .ok (.bipush 8, 2) := by decide +kernel
theorem dX6_init_50 : decode cX6_init 50 = .ok (.if_icmp .ge 22, 3) := by decide +kernel
theorem dX6_init_53 : decode cX6_init 53 = .ok (.aload_n 0, 1) := by decide +kernel
theorem dX6_init_54 : decode cX6_init 54 = .ok (.getfield 30, 3) := by decide +kernel
theorem dX6_init_57 : decode cX6_init 57 = .ok (.iload_n 1, 1) := by decide +kernel
theorem dX6_init_58 : decode cX6_init 58 = .ok (.new 28, 3) := by decide +kernel
theorem dX6_init_61 : decode cX6_init 61 = .ok (.dup, 1) := by decide +kernel
theorem dX6_init_62 : decode cX6_init 62 = .ok (.invokespecial 34, 3) := by decide +kernel
theorem dX6_init_65 : decode cX6_init 65 = .ok (.aastore, 1) := by decide +kernel
theorem dX6_init_66 : decode cX6_init 66 = .ok (.iinc 1 1, 3) := by decide +kernel
theorem dX6_init_69 : decode cX6_init 69 = .ok (.goto (-22), 3) := by decide +kernel
theorem dX6_init_72 : decode cX6_init 72 = .ok (.return_, 1) := by decide +kernel
theorem dX6_clearAll_0 : decode cX6_clearAll 0 = .ok (.aload_n 0, 1) := by decide +kernel
theorem dX6_clearAll_1 : decode cX6_clearAll 1 = .ok (.iconst 0, 1) := by decide +kernel
theorem dX6_clearAll_2 : decode cX6_clearAll 2 = .ok (.putfield 15, 3) := by decide +kernel
theorem dX6_clearAll_5 : decode cX6_clearAll 5 = .ok (.aload_n 0, 1) := by decide +kernel
theorem dX6_clearAll_6 : decode cX6_clearAll 6 = .ok (.bipush 60, 2) := by decide +kernel
theorem dX6_clearAll_8 : decode cX6_clearAll 8 = .ok (.putfield 19, 3) := by decide +kernel
theorem dX6_clearAll_11 : decode cX6_clearAll 11 = .ok (.aload_n 0, 1) := by decide +kernel
theorem dX6_clearAll_12 : decode cX6_clearAll 12 = .ok (.iconst 0, 1) := by decide +kernel
theorem dX6_clearAll_13 : decode cX6_clearAll 13 = .ok (.putfield 22, 3) := by decide +kernel
theorem dX6_clearAll_16 : decode cX6_clearAll 16 = .ok (.aload_n 0, 1) := by decide +kernel
theorem dX6_clearAll_17 : decode cX6_clearAll 17 = .ok (.invokevirtual 35, 3) := by decide +kernel
theorem dX6_clearAll_20 : decode cX6_clearAll 20 = .ok (.iconst 0, 1) := by decide +kernel
theorem dX6_clearAll_21 : decode cX6_clearAll 21 = .ok (.istore_n 1, 1) := by decide +kernel
theorem dX6_clearAll_22 : decode cX6_clearAll 22 = .ok (.iload_n 1, 1) := by decide +kernel
theorem dX6_clearAll_23 : decode cX6_clearAll 23 = .ok (.bipush 8, 2) := by decide +kernel
theorem dX6_clearAll_25 : decode cX6_clearAll 25 = .ok (.if_icmp .ge 19, 3) := by decide +kernel
theorem dX6_clearAll_28 : decode cX6_clearAll 28 = .ok (.aload_n 0, 1) := by decide +kernel
theorem dX6_clearAll_29 : decode cX6_clearAll 29 = .ok (.getfield 30, 3) := by decide +kernel
theorem dX6_clearAll_32 : decode cX6_clearAll 32 = .ok (.iload_n 1, 1) := by decide +kernel
theorem dX6_clearAll_33 : decode cX6_clearAll 33 = .ok (.aaload, 1) := by decide +kernel
theorem dX6_clearAll_34 : decode cX6_clearAll 34 = .ok (.iconst 0, 1) := by decide +kernel
theorem dX6_clearAll_35 : decode cX6_clearAll 35 = .ok (.putfield 38, 3) := by decide +kernel
theorem dX6_clearAll_38 : decode cX6_clearAll 38 = .ok (.iinc 1 1, 3) := by decide +kernel
theorem dX6_clearAll_41 : decode cX6_clearAll 41 = .ok (.goto (-19), 3) := by decide +kernel
theorem dX6_clearAll_44 : decode cX6_clearAll 44 = .ok (.return_, 1) := by decide +kernel
theorem dX6_copyFrom_0 : decode cX6_copyFrom 0 = .ok (.aload_n 1, 1) := by decide +kernel
theorem dX6_copyFrom_1 : decode cX6_copyFrom 1 = .ok (.getfield 9, 3) := by decide +kernel
theorem dX6_copyFrom_4 : decode cX6_copyFrom 4 = .ok (.iconst 0, 1) := by decide +kernel
theorem dX6_copyFrom_5 : decode cX6_copyFrom 5 = .ok (.aload_n 0, 1) := by decide +kernel
theorem dX6_copyFrom_6 : decode cX6_copyFrom 6 = .ok (.getfield 9, 3) := by decide +kernel
theorem dX6_copyFrom_9 : decode cX6_copyFrom 9 = .ok (.iconst 0, 1) := by decide +kernel
theorem dX6_copyFrom_10 : decode cX6_copyFrom 10 = .ok (.bipush 16, 2) := by decide +kernel
theorem dX6_copyFrom_12 : decode cX6_copyFrom 12 = .ok (.invokestatic 41, 3) := by decide +kernel
theorem dX6_copyFrom_15 : decode cX6_copyFrom 15 = .ok (.aload_n 0, 1) := by decide +kernel
theorem dX6_copyFrom_16 : decode cX6_copyFrom 16 = .ok (.aload_n 1, 1) := by decide +kernel
theorem dX6_copyFrom_17 : decode cX6_copyFrom 17 = .ok (.getfield 15, 3) := by decide +kernel
theorem dX6_copyFrom_20 : decode cX6_copyFrom 20 = .ok (.putfield 15, 3) := by decide +kernel
theorem dX6_copyFrom_23 : decode cX6_copyFrom 23 = .ok (.aload_n 0, 1) := by decide +kernel
theorem dX6_copyFrom_24 : decode cX6_copyFrom 24 = .ok (.aload_n 1, 1) := by decide +kernel
theorem dX6_copyFrom_25 : decode cX6_copyFrom 25 = .ok (.getfield 19, 3) := by decide +kernel
theorem dX6_copyFrom_28 : decode cX6_copyFrom 28 = .ok (.putfield 19, 3) := by decide +kernel
theorem dX6_copyFrom_31 : decode cX6_copyFrom 31 = .ok (.aload_n 0, 1) := by decide +kernel
theorem dX6_copyFrom_32 : decode cX6_copyFrom 32 = .ok (.aload_n 1, 1) := by decide +kernel
theorem dX6_copyFrom_33 : decode cX6_copyFrom 33 = .ok (.getfield 22, 3) := by decide +kernel
theorem dX6_copyFrom_36 : decode cX6_copyFrom 36 = .ok (.putfield 22, 3) := by decide +kernel
theorem dX6_copyFrom_39 : decode cX6_copyFrom 39 = .ok (.aload_n 1, 1) := by decide +kernel
theorem dX6_copyFrom_40 : decode cX6_copyFrom 40 = .ok (.getfield 25, 3) := by decide +kernel
theorem dX6_copyFrom_43 : decode cX6_copyFrom 43 = .ok (.iconst 0, 1) := by decide +kernel
theorem dX6_copyFrom_44 : decode cX6_copyFrom 44 = .ok (.aload_n 0, 1) := by decide +kernel
theorem dX6_copyFrom_45 : decode cX6_copyFrom 45 = .ok (.getfield 25, 3) := by decide +kernel
theorem dX6_copyFrom_48 : decode cX6_copyFrom 48 = .ok (.iconst 0, 1) := by decide +kernel
theorem dX6_copyFrom_49 : decode cX6_copyFrom 49 = .ok (.bipush 8, 2) := by decide +kernel
theorem dX6_copyFrom_51 : decode cX6_copyFrom 51 = .ok (.invokestatic 41, 3) := by decide +kernel
theorem dX6_copyFrom_54 : decode cX6_copyFrom 54 = .ok (.iconst 0, 1) := by decide +kernel
theorem dX6_copyFrom_55 : decode cX6_copyFrom 55 = .ok (.istore_n 2, 1) := by decide +kernel
theorem dX6_copyFrom_56 : decode cX6_copyFrom 56 = .ok (.iload_n 2, 1) := by decide +kernel
theorem dX6_copyFrom_57 : decode cX6_copyFrom 57 = .ok (.bipush 8, 2) := by decide +kernel
theorem dX6_copyFrom_59 : decode cX6_copyFrom 59 = .ok (.if_icmp .ge 24, 3) := by decide +kernel
theorem dX6_copyFrom_62 : decode cX6_copyFrom 62 = .ok (.aload_n 0, 1) := by decide +kernel
theorem dX6_copyFrom_63 : decode cX6_copyFrom 63 = .ok (.getfield 30, 3) := by decide +kernel
theorem dX6_copyFrom_66 : decode cX6_copyFrom 66 = .ok (.iload_n 2, 1) := by decide +kernel
theorem dX6_copyFrom_67 : decode cX6_copyFrom 67 = .ok (.aaload, 1) := by decide +kernel
theorem dX6_copyFrom_68 : decode cX6_copyFrom 68 = .ok (.aload_n 1, 1) := by decide +kernel
theorem dX6_copyFrom_69 : decode cX6_copyFrom 69 = .ok (.getfield 30, 3) := by decide +kernel
theorem dX6_copyFrom_72 : decode cX6_copyFrom 72 = .ok (.iload_n 2, 1) := by decide +kernel
theorem dX6_copyFrom_73 : decode cX6_copyFrom 73 = .ok (.aaload, 1) := by decide +kernel
theorem dX6_copyFrom_74 : decode cX6_copyFrom 74 = .ok (.invokevirtual 47, 3) := by decide +kernel
theorem dX6_copyFrom_77 : decode cX6_copyFrom 77 = .ok (.iinc 2 1, 3) := by decide +kernel
theorem dX6_copyFrom_80 : decode cX6_copyFrom 80 = .ok (.goto (-24), 3) := by decide +kernel
theorem dX6_copyFrom_83 : decode cX6_copyFrom 83 = .ok (.return_, 1) := by decide +kernel
theorem dX6_freeAllLags_0 : decode cX6_freeAllLags 0 = .ok (.iconst 0, 1) := by decide +kernel
theorem dX6_freeAllLags_1 : decode cX6_freeAllLags 1 = .ok (.istore_n 1, 1) := by decide +kernel
theorem dX6_freeAllLags_2 : decode cX6_freeAllLags 2 = .ok (.iload_n 1, 1) := by decide +kernel
theorem dX6_freeAllLags_3 : decode cX6_freeAllLags 3 = .ok (.bipush 8, 2) := by decide +kernel
theorem dX6_freeAllLags_5 : decode cX6_freeAllLags 5 = .ok (.if_icmp .ge 16, 3) := by decide +kernel
theorem dX6_freeAllLags_8 : decode cX6_freeAllLags 8 = .ok (.aload_n 0, 1) := by decide +kernel
theorem dX6_freeAllLags_9 : decode cX6_freeAllLags 9 = .ok (.getfield 25, 3) := by decide +kernel
theorem dX6_freeAllLags_12 : decode cX6_freeAllLags 12 = .ok (.iload_n 1, 1) := by decide +kernel
theorem dX6_freeAllLags_13 : decode cX6_freeAllLags 13 = .ok (.iconst 0, 1) := by decide +kernel
theorem dX6_freeAllLags_14 : decode cX6_freeAllLags 14 = .ok (.iastore, 1) := by decide +kernel
theorem dX6_freeAllLags_15 : decode cX6_freeAllLags 15 = .ok (.iinc 1 1, 3) := by decide +kernel
theorem dX6_freeAllLags_18 : decode cX6_freeAllLags 18 = .ok (.goto (-16), 3) := by decide +kernel
theorem dX6_freeAllLags_21 : decode cX6_freeAllLags 21 = .ok (.return_, 1) := by decide +kernel
theorem dX6_hasStock_0 : decode cX6_hasStock 0 = .ok (.iconst 0, 1) := by decide +kernel
theorem dX6_hasStock_1 : decode cX6_hasStock 1 = .ok (.istore_n 2, 1) := by decide +kernel
theorem dX6_hasStock_2 : decode cX6_hasStock 2 = .ok (.iload_n 2, 1) := by decide +kernel
theorem dX6_hasStock_3 : decode cX6_hasStock 3 = .ok (.aload_n 0, 1) := by decide +kernel
theorem dX6_hasStock_4 : decode cX6_hasStock 4 = .ok (.getfield 15, 3) := by decide +kernel
theorem dX6_hasStock_7 : decode cX6_hasStock 7 = .ok (.if_icmp .ge 21, 3) := by decide +kernel
theorem dX6_hasStock_10 : decode cX6_hasStock 10 = .ok (.aload_n 0, 1) := by decide +kernel
theorem dX6_hasStock_11 : decode cX6_hasStock 11 = .ok (.getfield 9, 3) := by decide +kernel
theorem dX6_hasStock_14 : decode cX6_hasStock 14 = .ok (.iload_n 2, 1) := by decide +kernel
theorem dX6_hasStock_15 : decode cX6_hasStock 15 = .ok (.iaload, 1) := by decide +kernel
theorem dX6_hasStock_16 : decode cX6_hasStock 16 = .ok (.iload_n 1, 1) := by decide +kernel
theorem dX6_hasStock_17 : decode cX6_hasStock 17 = .ok (.if_icmp .ne 5, 3) := by decide +kernel
theorem dX6_hasStock_20 : decode cX6_hasStock 20 = .ok (.iconst 1, 1) := by decide +kernel
theorem dX6_hasStock_21 : decode cX6_hasStock 21 = .ok (.ireturn, 1) := by decide +kernel
theorem dX6_hasStock_22 : decode cX6_hasStock 22 = .ok (.iinc 2 1, 3) := by decide +kernel
theorem dX6_hasStock_25 : decode cX6_hasStock 25 = .ok (.goto (-23), 3) := by decide +kernel
theorem dX6_hasStock_28 : decode cX6_hasStock 28 = .ok (.iconst 0, 1) := by decide +kernel
theorem dX6_hasStock_29 : decode cX6_hasStock 29 = .ok (.ireturn, 1) := by decide +kernel
theorem dX6_canTakeStock_0 : decode cX6_canTakeStock 0 = .ok (.aload_n 0, 1) := by decide +kernel
theorem dX6_canTakeStock_1 : decode cX6_canTakeStock 1 = .ok (.getfield 15, 3) := by decide +kernel
theorem dX6_canTakeStock_4 : decode cX6_canTakeStock 4 = .ok (.bipush 16, 2) := by decide +kernel
theorem dX6_canTakeStock_6 : decode cX6_canTakeStock 6 = .ok (.if_icmp .ge 15, 3) := by decide +kernel
theorem dX6_canTakeStock_9 : decode cX6_canTakeStock 9 = .ok (.aload_n 0, 1) := by decide +kernel
theorem dX6_canTakeStock_10 : decode cX6_canTakeStock 10 = .ok (.iload_n 1, 1) := by decide +kernel
theorem dX6_canTakeStock_11 : decode cX6_canTakeStock 11 = .ok (.invokevirtual 51, 3) := by decide +kernel
theorem dX6_canTakeStock_14 : decode cX6_canTakeStock 14 = .ok (.ifCond .ne 7, 3) := by decide +kernel
theorem dX6_canTakeStock_17 : decode cX6_canTakeStock 17 = .ok (.iconst 1, 1) := by decide +kernel
theorem dX6_canTakeStock_18 : decode cX6_canTakeStock 18 = .ok (.goto 4, 3) := by decide +kernel
theorem dX6_canTakeStock_21 : decode cX6_canTakeStock 21 = .ok (.iconst 0, 1) := by decide +kernel
theorem dX6_canTakeStock_22 : decode cX6_canTakeStock 22 = .ok (.ireturn, 1) := by decide +kernel
theorem dX6_insertStock_0 : decode cX6_insertStock 0 = .ok (.aload_n 0, 1) := by decide +kernel
theorem dX6_insertStock_1 : decode cX6_insertStock 1 = .ok (.getfield 15, 3) := by decide +kernel
theorem dX6_insertStock_4 : decode cX6_insertStock 4 = .ok (.bipush 16, 2) := by decide +kernel
theorem dX6_insertStock_6 : decode cX6_insertStock 6 = .ok (.if_icmp .lt 4, 3) := by decide +kernel
theorem dX6_insertStock_9 : decode cX6_insertStock 9 = .ok (.return_, 1) := by decide +kernel
theorem dX6_insertStock_10 : decode cX6_insertStock 10 = .ok (.aload_n 0, 1) := by decide +kernel
theorem dX6_insertStock_11 : decode cX6_insertStock 11 = .ok (.getfield 15, 3) := by decide +kernel
theorem dX6_insertStock_14 : decode cX6_insertStock 14 = .ok (.istore_n 2, 1) := by decide +kernel
theorem dX6_insertStock_15 : decode cX6_insertStock 15 = .ok (.iload_n 2, 1) := by decide +kernel
theorem dX6_insertStock_16 : decode cX6_insertStock 16 = .ok (.ifCond .le 35, 3) := by decide +kernel
theorem dX6_insertStock_19 : decode cX6_insertStock 19 = .ok (.aload_n 0, 1) := by decide +kernel
theorem dX6_insertStock_20 : decode cX6_insertStock 20 = .ok (.getfield 9, 3) := by decide +kernel
theorem dX6_insertStock_23 : decode cX6_insertStock 23 = .ok (.iload_n 2, 1) := by decide +kernel
theorem dX6_insertStock_24 : decode cX6_insertStock 24 = .ok (.iconst 1, 1) := by decide +kernel
theorem dX6_insertStock_25 : decode cX6_insertStock 25 = .ok (.isub, 1) := by decide +kernel
theorem dX6_insertStock_26 : decode cX6_insertStock 26 = .ok (.iaload, 1) := by decide +kernel
theorem dX6_insertStock_27 : decode cX6_insertStock 27 = .ok (.iload_n 1, 1) := by decide +kernel
theorem dX6_insertStock_28 : decode cX6_insertStock 28 = .ok (.if_icmp .le 23, 3) := by decide +kernel
theorem dX6_insertStock_31 : decode cX6_insertStock 31 = .ok (.aload_n 0, 1) := by decide +kernel
theorem dX6_insertStock_32 : decode cX6_insertStock 32 = .ok (.getfield 9, 3) := by decide +kernel
theorem dX6_insertStock_35 : decode cX6_insertStock 35 = .ok (.iload_n 2, 1) := by decide +kernel
theorem dX6_insertStock_36 : decode cX6_insertStock 36 = .ok (.aload_n 0, 1) := by decide +kernel
theorem dX6_insertStock_37 : decode cX6_insertStock 37 = .ok (.getfield 9, 3) := by decide +kernel
theorem dX6_insertStock_40 : decode cX6_insertStock 40 = .ok (.iload_n 2, 1) := by decide +kernel
theorem dX6_insertStock_41 : decode cX6_insertStock 41 = .ok (.iconst 1, 1) := by decide +kernel
theorem dX6_insertStock_42 : decode cX6_insertStock 42 = .ok (.isub, 1) := by decide +kernel
theorem dX6_insertStock_43 : decode cX6_insertStock 43 = .ok (.iaload, 1) := by decide +kernel
theorem dX6_insertStock_44 : decode cX6_insertStock 44 = .ok (.iastore, 1) := by decide +kernel
theorem dX6_insertStock_45 : decode cX6_insertStock 45 = .ok (.iinc 2 (-1), 3) := by decide +kernel
theorem dX6_insertStock_48 : decode cX6_insertStock 48 = .ok (.goto (-33), 3) := by decide +kernel
theorem dX6_insertStock_51 : decode cX6_insertStock 51 = .ok (.aload_n 0, 1) := by decide +kernel
theorem dX6_insertStock_52 : decode cX6_insertStock 52 = .ok (.getfield 9, 3) := by decide +kernel
theorem dX6_insertStock_55 : decode cX6_insertStock 55 = .ok (.iload_n 2, 1) := by decide +kernel
theorem dX6_insertStock_56 : decode cX6_insertStock 56 = .ok (.iload_n 1, 1) := by decide +kernel
theorem dX6_insertStock_57 : decode cX6_insertStock 57 = .ok (.iastore, 1) := by decide +kernel
theorem dX6_insertStock_58 : decode cX6_insertStock 58 = .ok (.aload_n 0, 1) := by decide +kernel
theorem dX6_insertStock_59 : decode cX6_insertStock 59 = .ok (.dup, 1) := by decide +kernel
theorem dX6_insertStock_60 : decode cX6_insertStock 60 = .ok (.getfield 15, 3) := by decide +kernel
theorem dX6_insertStock_63 : decode cX6_insertStock 63 = .ok (.iconst 1, 1) := by decide +kernel
theorem dX6_insertStock_64 : decode cX6_insertStock 64 = .ok (.iadd, 1) := by decide +kernel
theorem dX6_insertStock_65 : decode cX6_insertStock 65 = .ok (.putfield 15, 3) := by decide +kernel
theorem dX6_insertStock_68 : decode cX6_insertStock 68 = .ok (.return_, 1) := by decide +kernel
theorem dX6_dropStock_0 : decode cX6_dropStock 0 = .ok (.iconst 0, 1) := by decide +kernel
theorem dX6_dropStock_1 : decode cX6_dropStock 1 = .ok (.istore_n 2, 1) := by decide +kernel
theorem dX6_dropStock_2 : decode cX6_dropStock 2 = .ok (.iconst 0, 1) := by decide +kernel
theorem dX6_dropStock_3 : decode cX6_dropStock 3 = .ok (.istore_n 3, 1) := by decide +kernel
theorem dX6_dropStock_4 : decode cX6_dropStock 4 = .ok (.iload_n 3, 1) := by decide +kernel
theorem dX6_dropStock_5 : decode cX6_dropStock 5 = .ok (.aload_n 0, 1) := by decide +kernel
theorem dX6_dropStock_6 : decode cX6_dropStock 6 = .ok (.getfield 15, 3) := by decide +kernel
theorem dX6_dropStock_9 : decode cX6_dropStock 9 = .ok (.if_icmp .ge 34, 3) := by decide +kernel
theorem dX6_dropStock_12 : decode cX6_dropStock 12 = .ok (.aload_n 0, 1) := by decide +kernel
theorem dX6_dropStock_13 : decode cX6_dropStock 13 = .ok (.getfield 9, 3) := by decide +kernel
theorem dX6_dropStock_16 : decode cX6_dropStock 16 = .ok (.iload_n 3, 1) := by decide +kernel
theorem dX6_dropStock_17 : decode cX6_dropStock 17 = .ok (.iaload, 1) := by decide +kernel
theorem dX6_dropStock_18 : decode cX6_dropStock 18 = .ok (.iload_n 1, 1) := by decide +kernel
theorem dX6_dropStock_19 : decode cX6_dropStock 19 = .ok (.if_icmp .eq 18, 3) := by decide +kernel
theorem dX6_dropStock_22 : decode cX6_dropStock 22 = .ok (.aload_n 0, 1) := by decide +kernel
theorem dX6_dropStock_23 : decode cX6_dropStock 23 = .ok (.getfield 9, 3) := by decide +kernel
theorem dX6_dropStock_26 : decode cX6_dropStock 26 = .ok (.iload_n 2, 1) := by decide +kernel
theorem dX6_dropStock_27 : decode cX6_dropStock 27 = .ok (.aload_n 0, 1) := by decide +kernel
theorem dX6_dropStock_28 : decode cX6_dropStock 28 = .ok (.getfield 9, 3) := by decide +kernel
theorem dX6_dropStock_31 : decode cX6_dropStock 31 = .ok (.iload_n 3, 1) := by decide +kernel
theorem dX6_dropStock_32 : decode cX6_dropStock 32 = .ok (.iaload, 1) := by decide +kernel
theorem dX6_dropStock_33 : decode cX6_dropStock 33 = .ok (.iastore, 1) := by decide +kernel
theorem dX6_dropStock_34 : decode cX6_dropStock 34 = .ok (.iinc 2 1, 3) := by decide +kernel
theorem dX6_dropStock_37 : decode cX6_dropStock 37 = .ok (.iinc 3 1, 3) := by decide +kernel
theorem dX6_dropStock_40 : decode cX6_dropStock 40 = .ok (.goto (-36), 3) := by decide +kernel
theorem dX6_dropStock_43 : decode cX6_dropStock 43 = .ok (.aload_n 0, 1) := by decide +kernel
theorem dX6_dropStock_44 : decode cX6_dropStock 44 = .ok (.iload_n 2, 1) := by decide +kernel
theorem dX6_dropStock_45 : decode cX6_dropStock 45 = .ok (.putfield 15, 3) := by decide +kernel
theorem dX6_dropStock_48 : decode cX6_dropStock 48 = .ok (.return_, 1) := by decide +kernel
theorem dX7_init_0 : decode cX7_init 0 = .ok (.aload_n 0, 1) := by decide +kernel
theorem dX7_init_1 : decode cX7_init 1 = .ok (.invokespecial 3, 3) := by decide +kernel
theorem dX7_init_4 : decode cX7_init 4 = .ok (.aload_n 0, 1) := by decide +kernel
theorem dX7_init_5 : decode cX7_init 5 = .ok (.sipush 900, 3) := by decide +kernel
theorem dX7_init_8 : decode cX7_init 8 = .ok (.newarray .byte, 2) := by decide +kernel
theorem dX7_init_10 : decode cX7_init 10 = .ok (.putfield 9, 3) := by decide +kernel
theorem dX7_init_13 : decode cX7_init 13 = .ok (.aload_n 0, 1) := by decide +kernel
theorem dX7_init_14 : decode cX7_init 14 = .ok (.iconst 0, 1) := by decide +kernel
theorem dX7_init_15 : decode cX7_init 15 = .ok (.putfield 15, 3) := by decide +kernel
theorem dX7_init_18 : decode cX7_init 18 = .ok (.aload_n 0, 1) := by decide +kernel
theorem dX7_init_19 : decode cX7_init 19 = .ok (.iconst 0, 1) := by decide +kernel
theorem dX7_init_20 : decode cX7_init 20 = .ok (.putfield 19, 3) := by decide +kernel
theorem dX7_init_23 : decode cX7_init 23 = .ok (.aload_n 0, 1) := by decide +kernel
theorem dX7_init_24 : decode cX7_init 24 = .ok (.iconst 0, 1) := by decide +kernel
theorem dX7_init_25 : decode cX7_init 25 = .ok (.putfield 22, 3) := by decide +kernel
theorem dX7_init_28 : decode cX7_init 28 = .ok (.aload_n 0, 1) := by decide +kernel
theorem dX7_init_29 : decode cX7_init 29 = .ok (.iconst 0, 1) := by decide +kernel
theorem dX7_init_30 : decode cX7_init 30 = .ok (.putfield 25, 3) := by decide +kernel
theorem dX7_init_33 : decode cX7_init 33 = .ok (.aload_n 0, 1) := by decide +kernel
theorem dX7_init_34 : decode cX7_init 34 = .ok (.iconst 0, 1) := by decide +kernel
theorem dX7_init_35 : decode cX7_init 35 = .ok (.putfield 28, 3) := by decide +kernel
theorem dX7_init_38 : decode cX7_init 38 = .ok (.aload_n 0, 1) := by decide +kernel
theorem dX7_init_39 : decode cX7_init 39 = .ok (.lconst 0, 1) := by decide +kernel
theorem dX7_init_40 : decode cX7_init 40 = .ok (.putfield 31, 3) := by decide +kernel
theorem dX7_init_43 : decode cX7_init 43 = .ok (.return_, 1) := by decide +kernel
theorem dX7_appendBytes_0 : decode cX7_appendBytes 0 = .ok (.bipush 24, 2) := by decide +kernel
theorem dX7_appendBytes_2 : decode cX7_appendBytes 2 = .ok (.istore_n 2, 1) := by decide +kernel
theorem dX7_appendBytes_3 : decode cX7_appendBytes 3 = .ok (.iload_n 2, 1) := by decide +kernel
theorem dX7_appendBytes_4 : decode cX7_appendBytes 4 = .ok (.ifCond .lt 42, 3) := by decide +kernel
theorem dX7_appendBytes_7 : decode cX7_appendBytes 7 = .ok (.aload_n 0, 1) := by decide +kernel
theorem dX7_appendBytes_8 : decode cX7_appendBytes 8 = .ok (.getfield 15, 3) := by decide +kernel
theorem dX7_appendBytes_11 : decode cX7_appendBytes 11 = .ok (.sipush 900, 3) := by decide +kernel
theorem dX7_appendBytes_14 : decode cX7_appendBytes 14 = .ok (.if_icmp .ge 26, 3) := by decide +kernel
theorem dX7_appendBytes_17 : decode cX7_appendBytes 17 = .ok (.aload_n 0, 1) := by decide +kernel
theorem dX7_appendBytes_18 : decode cX7_appendBytes 18 = .ok (.getfield 9, 3) := by decide +kernel
theorem dX7_appendBytes_21 : decode cX7_appendBytes 21 = .ok (.aload_n 0, 1) := by decide +kernel
theorem dX7_appendBytes_22 : decode cX7_appendBytes 22 = .ok (.getfield 15, 3) := by decide +kernel
theorem dX7_appendBytes_25 : decode cX7_appendBytes 25 = .ok (.iload_n 1, 1) := by decide +kernel
theorem dX7_appendBytes_26 : decode cX7_appendBytes 26 = .ok (.iload_n 2, 1) := by decide +kernel
theorem dX7_appendBytes_27 : decode cX7_appendBytes 27 = .ok (.ishr, 1) := by decide +kernel
theorem dX7_appendBytes_28 : decode cX7_appendBytes 28 = .ok (.i2b, 1) := by decide +kernel
theorem dX7_appendBytes_29 : decode cX7_appendBytes 29 = .ok (.bastore, 1) := by decide +kernel
theorem dX7_appendBytes_30 : decode cX7_appendBytes 30 = .ok (.aload_n 0, 1) := by decide +kernel
theorem dX7_appendBytes_31 : decode cX7_appendBytes 31 = .ok (.dup, 1) := by decide +kernel
theorem dX7_appendBytes_32 : decode cX7_appendBytes 32 = .ok (.getfield 15, 3) := by decide +kernel
theorem dX7_appendBytes_35 : decode cX7_appendBytes 35 = .ok (.iconst 1, 1) := by decide +kernel
theorem dX7_appendBytes_36 : decode cX7_appendBytes 36 = .ok (.iadd, 1) := by decide +kernel
theorem dX7_appendBytes_37 : decode cX7_appendBytes 37 = .ok (.putfield 15, 3) := by decide +kernel
theorem dX7_appendBytes_40 : decode cX7_appendBytes 40 = .ok (.iinc 2 (-8), 3) := by decide +kernel
theorem dX7_appendBytes_43 : decode cX7_appendBytes 43 = .ok (.goto (-40), 3) := by decide +kernel
theorem dX7_appendBytes_46 : decode cX7_appendBytes 46 = .ok (.return_, 1) := by decide +kernel
theorem dX7_rewind_0 : decode cX7_rewind 0 = .ok (.aload_n 0, 1) := by decide +kernel
theorem dX7_rewind_1 : decode cX7_rewind 1 = .ok (.iconst 0, 1) := by decide +kernel
theorem dX7_rewind_2 : decode cX7_rewind 2 = .ok (.putfield 25, 3) := by decide +kernel
theorem dX7_rewind_5 : decode cX7_rewind 5 = .ok (.aload_n 0, 1) := by decide +kernel
theorem dX7_rewind_6 : decode cX7_rewind 6 = .ok (.invokevirtual 35, 3) := by decide +kernel
theorem dX7_rewind_9 : decode cX7_rewind 9 = .ok (.return_, 1) := by decide +kernel
theorem dX7_advance_0 : decode cX7_advance 0 = .ok (.aload_n 0, 1) := by decide +kernel
theorem dX7_advance_1 : decode cX7_advance 1 = .ok (.aload_n 0, 1) := by decide +kernel
theorem dX7_advance_2 : decode cX7_advance 2 = .ok (.getfield 25, 3) := by decide +kernel
theorem dX7_advance_5 : decode cX7_advance 5 = .ok (.putfield 22, 3) := by decide +kernel
theorem dX7_advance_8 : decode cX7_advance 8 = .ok (.aload_n 0, 1) := by decide +kernel
theorem dX7_advance_9 : decode cX7_advance 9 = .ok (.getfield 22, 3) := by decide +kernel
theorem dX7_advance_12 : decode cX7_advance 12 = .ok (.aload_n 0, 1) := by decide +kernel
theorem dX7_advance_13 : decode cX7_advance 13 = .ok (.getfield 15, 3) := by decide +kernel
theorem dX7_advance_16 : decode cX7_advance 16 = .ok (.if_icmp .ge 44, 3) := by decide +kernel
theorem dX7_advance_19 : decode cX7_advance 19 = .ok (.aload_n 0, 1) := by decide +kernel
theorem dX7_advance_20 : decode cX7_advance 20 = .ok (.getfield 9, 3) := by decide +kernel
theorem dX7_advance_23 : decode cX7_advance 23 = .ok (.aload_n 0, 1) := by decide +kernel
theorem dX7_advance_24 : decode cX7_advance 24 = .ok (.getfield 22, 3) := by decide +kernel
theorem dX7_advance_27 : decode cX7_advance 27 = .ok (.baload, 1) := by decide +kernel
theorem dX7_advance_28 : decode cX7_advance 28 = .ok (.bipush 32, 2) := by decide +kernel
theorem dX7_advance_30 : decode cX7_advance 30 = .ok (.if_icmp .eq 17, 3) := by decide +kernel
theorem dX7_advance_33 : decode cX7_advance 33 = .ok (.aload_n 0, 1) := by decide +kernel
theorem dX7_advance_34 : decode cX7_advance 34 = .ok (.getfield 9, 3) := by decide +kernel
theorem dX7_advance_37 : decode cX7_advance 37 = .ok (.aload_n 0, 1) := by decide +kernel
theorem dX7_advance_38 : decode cX7_advance 38 = .ok (.getfield 22, 3) := by decide +kernel
theorem dX7_advance_41 : decode cX7_advance 41 = .ok (.baload, 1) := by decide +kernel
theorem dX7_advance_42 : decode cX7_advance 42 = .ok (.bipush 10, 2) := by decide +kernel
theorem dX7_advance_44 : decode cX7_advance 44 = .ok (.if_icmp .ne 16, 3) := by decide +kernel
theorem dX7_advance_47 : decode cX7_advance 47 = .ok (.aload_n 0, 1) := by decide +kernel
theorem dX7_advance_48 : decode cX7_advance 48 = .ok (.dup, 1) := by decide +kernel
theorem dX7_advance_49 : decode cX7_advance 49 = .ok (.getfield 22, 3) := by decide +kernel
theorem dX7_advance_52 : decode cX7_advance 52 = .ok (.iconst 1, 1) := by decide +kernel
theorem dX7_advance_53 : decode cX7_advance 53 = .ok (.iadd, 1) := by decide +kernel
theorem dX7_advance_54 : decode cX7_advance 54 = .ok (.putfield 22, 3) := by decide +kernel
theorem dX7_advance_57 : decode cX7_advance 57 = .ok (.goto (-49), 3) := by decide +kernel
theorem dX7_advance_60 : decode cX7_advance 60 = .ok (.aload_n 0, 1) := by decide +kernel
theorem dX7_advance_61 : decode cX7_advance 61 = .ok (.aload_n 0, 1) := by decide +kernel
theorem dX7_advance_62 : decode cX7_advance 62 = .ok (.getfield 22, 3) := by decide +kernel
theorem dX7_advance_65 : decode cX7_advance 65 = .ok (.putfield 25, 3) := by decide +kernel
theorem dX7_advance_68 : decode cX7_advance 68 = .ok (.aload_n 0, 1) := by decide +kernel
theorem dX7_advance_69 : decode cX7_advance 69 = .ok (.getfield 22, 3) := by decide +kernel
theorem dX7_advance_72 : decode cX7_advance 72 = .ok (.aload_n 0, 1) := by decide +kernel
theorem dX7_advance_73 : decode cX7_advance 73 = .ok (.getfield 15, 3) := by decide +kernel
theorem dX7_advance_76 : decode cX7_advance 76 = .ok (.if_icmp .lt 9, 3) := by decide +kernel
theorem dX7_advance_79 : decode cX7_advance 79 = .ok (.aload_n 0, 1) := by decide +kernel
theorem dX7_advance_80 : decode cX7_advance 80 = .ok (.iconst 0, 1) := by decide +kernel
theorem dX7_advance_81 : decode cX7_advance 81 = .ok (.putfield 19, 3) := by decide +kernel
theorem dX7_advance_84 : decode cX7_advance 84 = .ok (.return_, 1) := by decide +kernel
theorem dX7_advance_85 : decode cX7_advance 85 = .ok (.aload_n 0, 1) := by decide +kernel
theorem dX7_advance_86 : decode cX7_advance 86 = .ok (.aload_n 0, 1) := by decide +kernel
theorem dX7_advance_87 : decode cX7_advance 87 = .ok (.getfield 9, 3) := by decide +kernel
theorem dX7_advance_90 : decode cX7_advance 90 = .ok (.aload_n 0, 1) := by decide +kernel
theorem dX7_advance_91 : decode cX7_advance 91 = .ok (.getfield 22, 3) := by decide +kernel
theorem dX7_advance_94 : decode cX7_advance 94 = .ok (.baload, 1) := by decide +kernel
theorem dX7_advance_95 : decode cX7_advance 95 = .ok (.invokestatic 38, 3) := by decide +kernel
theorem dX7_advance_98 : decode cX7_advance 98 = .ok (.putfield 19, 3) := by decide +kernel
theorem dX7_advance_101 : decode cX7_advance 101 = .ok (.aload_n 0, 1) := by decide +kernel
theorem dX7_advance_102 : decode cX7_advance 102 = .ok (.dup, 1) := by decide +kernel
theorem dX7_advance_103 : decode cX7_advance 103 = .ok (.getfield 25, 3) := by decide +kernel
theorem dX7_advance_106 : decode cX7_advance 106 = .ok (.iconst 1, 1) := by decide +kernel
theorem dX7_advance_107 : decode cX7_advance 107 = .ok (.iadd, 1) := by decide +kernel
theorem dX7_advance_108 : decode cX7_advance 108 = .ok (.putfield 25, 3) := by decide +kernel
theorem dX7_advance_111 : decode cX7_advance 111 = .ok (.aload_n 0, 1) := by decide +kernel
theorem dX7_advance_112 : decode cX7_advance 112 = .ok (.getfield 19, 3) := by decide +kernel
theorem dX7_advance_115 : decode cX7_advance 115 = .ok (.iconst 1, 1) := by decide +kernel
theorem dX7_advance_116 : decode cX7_advance 116 = .ok (.if_icmp .eq 11, 3) := by decide +kernel
theorem dX7_advance_119 : decode cX7_advance 119 = .ok (.aload_n 0, 1) := by decide +kernel
theorem dX7_advance_120 : decode cX7_advance 120 = .ok (.getfield 19, 3) := by decide +kernel
theorem dX7_advance_123 : decode cX7_advance 123 = .ok (.iconst 2, 1) := by decide +kernel
theorem dX7_advance_124 : decode cX7_advance 124 = .ok (.if_icmp .ne 50, 3) := by decide +kernel
theorem dX7_advance_127 : decode cX7_advance 127 = .ok (.aload_n 0, 1) := by decide +kernel
theorem dX7_advance_128 : decode cX7_advance 128 = .ok (.getfield 25, 3) := by decide +kernel
theorem dX7_advance_131 : decode cX7_advance 131 = .ok (.aload_n 0, 1) := by decide +kernel
theorem dX7_advance_132 : decode cX7_advance 132 = .ok (.getfield 15, 3) := by decide +kernel
theorem dX7_advance_135 : decode cX7_advance 135 = .ok (.if_icmp .ge 35, 3) := by decide +kernel
theorem dX7_advance_138 : decode cX7_advance 138 = .ok (.aload_n 0, 1) := by decide +kernel
theorem dX7_advance_139 : decode cX7_advance 139 = .ok (.getfield 9, 3) := by decide +kernel
theorem dX7_advance_142 : decode cX7_advance 142 = .ok (.aload_n 0, 1) := by decide +kernel
theorem dX7_advance_143 : decode cX7_advance 143 = .ok (.getfield 25, 3) := by decide +kernel
theorem dX7_advance_146 : decode cX7_advance 146 = .ok (.baload, 1) := by decide +kernel
theorem dX7_advance_147 : decode cX7_advance 147 = .ok (.invokestatic 38, 3) := by decide +kernel
theorem dX7_advance_150 : decode cX7_advance 150 = .ok (.aload_n 0, 1) := by decide +kernel
theorem dX7_advance_151 : decode cX7_advance 151 = .ok (.getfield 19, 3) := by decide +kernel
theorem dX7_advance_154 : decode cX7_advance 154 = .ok (.if_icmp .ne 16, 3) := by decide +kernel
theorem dX7_advance_157 : decode cX7_advance 157 = .ok (.aload_n 0, 1) := by decide +kernel
theorem dX7_advance_158 : decode cX7_advance 158 = .ok (.dup, 1) := by decide +kernel
theorem dX7_advance_159 : decode cX7_advance 159 = .ok (.getfield 25, 3) := by decide +kernel
theorem dX7_advance_162 : decode cX7_advance 162 = .ok (.iconst 1, 1) := by decide +kernel
theorem dX7_advance_163 : decode cX7_advance 163 = .ok (.iadd, 1) := by decide +kernel
theorem dX7_advance_164 : decode cX7_advance 164 = .ok (.putfield 25, 3) := by decide +kernel
theorem dX7_advance_167 : decode cX7_advance 167 = .ok (.goto (-40), 3) := by decide +kernel
theorem dX7_advance_170 : decode cX7_advance 170 = .ok (.aload_n 0, 1) := by decide +kernel
theorem dX7_advance_171 : decode cX7_advance 171 = .ok (.invokevirtual 42, 3) := by decide +kernel
theorem dX7_advance_174 : decode cX7_advance 174 = .ok (.return_, 1) := by decide +kernel
theorem dX7_kindOf_0 : decode cX7_kindOf 0 = .ok (.iload_n 0, 1) := by decide +kernel
theorem dX7_kindOf_1 : decode cX7_kindOf 1 = .ok (.bipush 97, 2) := by decide +kernel
theorem dX7_kindOf_3 : decode cX7_kindOf 3 = .ok (.if_icmp .lt 11, 3) := by decide +kernel
theorem dX7_kindOf_6 : decode cX7_kindOf 6 = .ok (.iload_n 0, 1) := by decide +kernel
theorem dX7_kindOf_7 : decode cX7_kindOf 7 = .ok (.bipush 122, 2) := by decide +kernel
theorem dX7_kindOf_9 : decode cX7_kindOf 9 = .ok (.if_icmp .gt 5, 3) := by decide +kernel
theorem dX7_kindOf_12 : decode cX7_kindOf 12 = .ok (.iconst 1, 1) := by decide +kernel
theorem dX7_kindOf_13 : decode cX7_kindOf 13 = .ok (.ireturn, 1) := by decide +kernel
theorem dX7_kindOf_14 : decode cX7_kindOf 14 = .ok (.iload_n 0, 1) := by decide +kernel
theorem dX7_kindOf_15 : decode cX7_kindOf 15 = .ok (.bipush 48, 2) := by decide +kernel
theorem dX7_kindOf_17 : decode cX7_kindOf 17 = .ok (.if_icmp .lt 11, 3) := by decide +kernel
theorem dX7_kindOf_20 : decode cX7_kindOf 20 = .ok (.iload_n 0, 1) := by decide +kernel
theorem dX7_kindOf_21 : decode cX7_kindOf 21 = .ok (.bipush 57, 2) := by decide +kernel
theorem dX7_kindOf_23 : decode cX7_kindOf 23 = .ok (.if_icmp .gt 5, 3) := by decide +kernel
theorem dX7_kindOf_26 : decode cX7_kindOf 26 = .ok (.iconst 2, 1) := by decide +kernel
theorem dX7_kindOf_27 : decode cX7_kindOf 27 = .ok (.ireturn, 1) := by decide +kernel
theorem dX7_kindOf_28 : decode cX7_kindOf 28 = .ok (.iload_n 0, 1) := by decide +kernel
theorem dX7_kindOf_29 : decode cX7_kindOf 29 = .ok (.bipush 59, 2) := by decide +kernel
theorem dX7_kindOf_31 : decode cX7_kindOf 31 = .ok (.if_icmp .ne 7, 3) := by decide +kernel
theorem dX7_kindOf_34 : decode cX7_kindOf 34 = .ok (.iconst 3, 1) := by decide +kernel
theorem dX7_kindOf_35 : decode cX7_kindOf 35 = .ok (.goto 4, 3) := by decide +kernel
theorem dX7_kindOf_38 : decode cX7_kindOf 38 = .ok (.iconst 4, 1) := by decide +kernel
theorem dX7_kindOf_39 : decode cX7_kindOf 39 = .ok (.ireturn, 1) := by decide +kernel
theorem dX7_takeRun_0 : decode cX7_takeRun 0 = .ok (.aload_n 0, 1) := by decide +kernel
theorem dX7_takeRun_1 : decode cX7_takeRun 1 = .ok (.lconst 0, 1) := by decide +kernel
theorem dX7_takeRun_2 : decode cX7_takeRun 2 = .ok (.putfield 31, 3) := by decide +kernel
theorem dX7_takeRun_5 : decode cX7_takeRun 5 = .ok (.aload_n 0, 1) := by decide +kernel
theorem dX7_takeRun_6 : decode cX7_takeRun 6 = .ok (.iconst 0, 1) := by decide +kernel
theorem dX7_takeRun_7 : decode cX7_takeRun 7 = .ok (.putfield 28, 3) := by decide +kernel
theorem dX7_takeRun_10 : decode cX7_takeRun 10 = .ok (.aload_n 0, 1) := by decide +kernel
theorem dX7_takeRun_11 : decode cX7_takeRun 11 = .ok (.getfield 19, 3) := by decide +kernel
theorem dX7_takeRun_14 : decode cX7_takeRun 14 = .ok (.iconst 1, 1) := by decide +kernel
theorem dX7_takeRun_15 : decode cX7_takeRun 15 = .ok (.if_icmp .ne 55, 3) := by decide +kernel
theorem dX7_takeRun_18 : decode cX7_takeRun 18 = .ok (.aload_n 0, 1) := by decide +kernel
theorem dX7_takeRun_19 : decode cX7_takeRun 19 = .ok (.getfield 25, 3) := by decide +kernel
theorem dX7_takeRun_22 : decode cX7_takeRun 22 = .ok (.aload_n 0, 1) := by decide +kernel
theorem dX7_takeRun_23 : decode cX7_takeRun 23 = .ok (.getfield 22, 3) := by decide +kernel
theorem dX7_takeRun_26 : decode cX7_takeRun 26 = .ok (.isub, 1) := by decide +kernel
theorem dX7_takeRun_27 : decode cX7_takeRun 27 = .ok (.bipush 8, 2) := by decide +kernel
theorem dX7_takeRun_29 : decode cX7_takeRun 29 = .ok (.if_icmp .gt 41, 3) := by decide +kernel
theorem dX7_takeRun_32 : decode cX7_takeRun 32 = .ok (.aload_n 0, 1) := by decide +kernel
theorem dX7_takeRun_33 : decode cX7_takeRun 33 = .ok (.getfield 22, 3) := by decide +kernel
theorem dX7_takeRun_36 : decode cX7_takeRun 36 = .ok (.istore_n 1, 1) := by decide +kernel
theorem dX7_takeRun_37 : decode cX7_takeRun 37 = .ok (.iload_n 1, 1) := by decide +kernel
theorem dX7_takeRun_38 : decode cX7_takeRun 38 = .ok (.aload_n 0, 1) := by decide +kernel
theorem dX7_takeRun_39 : decode cX7_takeRun 39 = .ok (.getfield 25, 3) := by decide +kernel
theorem dX7_takeRun_42 : decode cX7_takeRun 42 = .ok (.if_icmp .ge 28, 3) := by decide +kernel
theorem dX7_takeRun_45 : decode cX7_takeRun 45 = .ok (.aload_n 0, 1) := by decide +kernel
theorem dX7_takeRun_46 : decode cX7_takeRun 46 = .ok (.aload_n 0, 1) := by decide +kernel
theorem dX7_takeRun_47 : decode cX7_takeRun 47 = .ok (.getfield 31, 3) := by decide +kernel
theorem dX7_takeRun_50 : decode cX7_takeRun 50 = .ok (.bipush 8, 2) := by decide +kernel
theorem dX7_takeRun_52 : decode cX7_takeRun 52 = .ok (.lshl, 1) := by decide +kernel
theorem dX7_takeRun_53 : decode cX7_takeRun 53 = .ok (.aload_n 0, 1) := by decide +kernel
theorem dX7_takeRun_54 : decode cX7_takeRun 54 = .ok (.getfield 9, 3) := by decide +kernel
theorem dX7_takeRun_57 : decode cX7_takeRun 57 = .ok (.iload_n 1, 1) := by decide +kernel
theorem dX7_takeRun_58 : decode cX7_takeRun 58 = .ok (.baload, 1) := by decide +kernel
theorem dX7_takeRun_59 : decode cX7_takeRun 59 = .ok (.i2l, 1) := by decide +kernel
theorem dX7_takeRun_60 : decode cX7_takeRun 60 = .ok (.lor, 1) := by decide +kernel
theorem dX7_takeRun_61 : decode cX7_takeRun 61 = .ok (.putfield 31, 3) := by decide +kernel
theorem dX7_takeRun_64 : decode cX7_takeRun 64 = .ok (.iinc 1 1, 3) := by decide +kernel
theorem dX7_takeRun_67 : decode cX7_takeRun 67 = .ok (.goto (-30), 3) := by decide +kernel
theorem dX7_takeRun_70 : decode cX7_takeRun 70 = .ok (.aload_n 0, 1) := by decide +kernel
theorem dX7_takeRun_71 : decode cX7_takeRun 71 = .ok (.getfield 19, 3) := by decide +kernel
theorem dX7_takeRun_74 : decode cX7_takeRun 74 = .ok (.iconst 2, 1) := by decide +kernel
theorem dX7_takeRun_75 : decode cX7_takeRun 75 = .ok (.if_icmp .ne 22, 3) := by decide +kernel
theorem dX7_takeRun_78 : decode cX7_takeRun 78 = .ok (.aload_n 0, 1) := by decide +kernel
theorem dX7_takeRun_79 : decode cX7_takeRun 79 = .ok (.getfield 25, 3) := by decide +kernel
theorem dX7_takeRun_82 : decode cX7_takeRun 82 = .ok (.aload_n 0, 1) := by decide +kernel
theorem dX7_takeRun_83 : decode cX7_takeRun 83 = .ok (.getfield 22, 3) := by decide +kernel
theorem dX7_takeRun_86 : decode cX7_takeRun 86 = .ok (.isub, 1) := by decide +kernel
theorem dX7_takeRun_87 : decode cX7_takeRun 87 = .ok (.bipush 7, 2) := by decide +kernel
theorem dX7_takeRun_89 : decode cX7_takeRun 89 = .ok (.if_icmp .le 8, 3) := by decide +kernel
theorem dX7_takeRun_92 : decode cX7_takeRun 92 = .ok (.aload_n 0, 1) := by decide +kernel
theorem dX7_takeRun_93 : decode cX7_takeRun 93 = .ok (.iconst 4, 1) := by decide +kernel
theorem dX7_takeRun_94 : decode cX7_takeRun 94 = .ok (.putfield 19, 3) := by decide +kernel
theorem dX7_takeRun_97 : decode cX7_takeRun 97 = .ok (.aload_n 0, 1) := by decide +kernel
theorem dX7_takeRun_98 : decode cX7_takeRun 98 = .ok (.getfield 19, 3) := by decide +kernel
theorem dX7_takeRun_101 : decode cX7_takeRun 101 = .ok (.iconst 2, 1) := by decide +kernel
theorem dX7_takeRun_102 : decode cX7_takeRun 102 = .ok (.if_icmp .ne 43, 3) := by decide +kernel
theorem dX7_takeRun_105 : decode cX7_takeRun 105 = .ok (.aload_n 0, 1) := by decide +kernel
theorem dX7_takeRun_106 : decode cX7_takeRun 106 = .ok (.getfield 22, 3) := by decide +kernel
theorem dX7_takeRun_109 : decode cX7_takeRun 109 = .ok (.istore_n 1, 1) := by decide +kernel
theorem dX7_takeRun_110 : decode cX7_takeRun 110 = .ok (.iload_n 1, 1) := by decide +kernel
theorem dX7_takeRun_111 : decode cX7_takeRun 111 = .ok (.aload_n 0, 1) := by decide +kernel
theorem dX7_takeRun_112 : decode cX7_takeRun 112 = .ok (.getfield 25, 3) := by decide +kernel
theorem dX7_takeRun_115 : decode cX7_takeRun 115 = .ok (.if_icmp .ge 30, 3) := by decide +kernel
theorem dX7_takeRun_118 : decode cX7_takeRun 118 = .ok (.aload_n 0, 1) := by decide +kernel
theorem dX7_takeRun_119 : decode cX7_takeRun 119 = .ok (.aload_n 0, 1) := by decide +kernel
theorem dX7_takeRun_120 : decode cX7_takeRun 120 = .ok (.getfield 28, 3) := by decide +kernel
theorem dX7_takeRun_123 : decode cX7_takeRun 123 = .ok (.bipush 10, 2) := by decide +kernel
theorem dX7_takeRun_125 : decode cX7_takeRun 125 = .ok (.imul, 1) := by decide +kernel
theorem dX7_takeRun_126 : decode cX7_takeRun 126 = .ok (.aload_n 0, 1) := by decide +kernel
theorem dX7_takeRun_127 : decode cX7_takeRun 127 = .ok (.getfield 9, 3) := by decide +kernel
theorem dX7_takeRun_130 : decode cX7_takeRun 130 = .ok (.iload_n 1, 1) := by decide +kernel
theorem dX7_takeRun_131 : decode cX7_takeRun 131 = .ok (.baload, 1) := by decide +kernel
theorem dX7_takeRun_132 : decode cX7_takeRun 132 = .ok (.iadd, 1) := by decide +kernel
theorem dX7_takeRun_133 : decode cX7_takeRun 133 = .ok (.bipush 48, 2) := by decide +kernel
theorem dX7_takeRun_135 : decode cX7_takeRun 135 = .ok (.isub, 1) := by decide +kernel
theorem dX7_takeRun_136 : decode cX7_takeRun 136 = .ok (.putfield 28, 3) := by decide +kernel
theorem dX7_takeRun_139 : decode cX7_takeRun 139 = .ok (.iinc 1 1, 3) := by decide +kernel
theorem dX7_takeRun_142 : decode cX7_takeRun 142 = .ok (.goto (-32), 3) := by decide +kernel
theorem dX7_takeRun_145 : decode cX7_takeRun 145 = .ok (.return_, 1) := by decide +kernel
theorem dX7_isWord_0 : decode cX7_isWord 0 = .ok (.aload_n 0, 1) := by decide +kernel
theorem dX7_isWord_1 : decode cX7_isWord 1 = .ok (.getfield 19, 3) := by decide +kernel
theorem dX7_isWord_4 : decode cX7_isWord 4 = .ok (.iconst 1, 1) := by decide +kernel
theorem dX7_isWord_5 : decode cX7_isWord 5 = .ok (.if_icmp .ne 19, 3) := by decide +kernel
theorem dX7_isWord_8 : decode cX7_isWord 8 = .ok (.aload_n 0, 1) := by decide +kernel
theorem dX7_isWord_9 : decode cX7_isWord 9 = .ok (.getfield 31, 3) := by decide +kernel
theorem dX7_isWord_12 : decode cX7_isWord 12 = .ok (.aload_n 1, 1) := by decide +kernel
theorem dX7_isWord_13 : decode cX7_isWord 13 = .ok (.getfield 45, 3) := by decide +kernel
theorem dX7_isWord_16 : decode cX7_isWord 16 = .ok (.lcmp, 1) := by decide +kernel
theorem dX7_isWord_17 : decode cX7_isWord 17 = .ok (.ifCond .ne 7, 3) := by decide +kernel
theorem dX7_isWord_20 : decode cX7_isWord 20 = .ok (.iconst 1, 1) := by decide +kernel
theorem dX7_isWord_21 : decode cX7_isWord 21 = .ok (.goto 4, 3) := by decide +kernel
theorem dX7_isWord_24 : decode cX7_isWord 24 = .ok (.iconst 0, 1) := by decide +kernel
theorem dX7_isWord_25 : decode cX7_isWord 25 = .ok (.ireturn, 1) := by decide +kernel
theorem dX7_isName_0 : decode cX7_isName 0 = .ok (.aload_n 0, 1) := by decide +kernel
theorem dX7_isName_1 : decode cX7_isName 1 = .ok (.getfield 19, 3) := by decide +kernel
theorem dX7_isName_4 : decode cX7_isName 4 = .ok (.iconst 1, 1) := by decide +kernel
theorem dX7_isName_5 : decode cX7_isName 5 = .ok (.if_icmp .ne 26, 3) := by decide +kernel
theorem dX7_isName_8 : decode cX7_isName 8 = .ok (.aload_n 0, 1) := by decide +kernel
theorem dX7_isName_9 : decode cX7_isName 9 = .ok (.getfield 31, 3) := by decide +kernel
theorem dX7_isName_12 : decode cX7_isName 12 = .ok (.lconst 0, 1) := by decide +kernel
theorem dX7_isName_13 : decode cX7_isName 13 = .ok (.lcmp, 1) := by decide +kernel
theorem dX7_isName_14 : decode cX7_isName 14 = .ok (.ifCond .eq 17, 3) := by decide +kernel
theorem dX7_isName_17 : decode cX7_isName 17 = .ok (.aload_n 0, 1) := by decide +kernel
theorem dX7_isName_18 : decode cX7_isName 18 = .ok (.getfield 31, 3) := by decide +kernel
theorem dX7_isName_21 : decode cX7_isName 21 = .ok (.invokestatic 48, 3) := by decide +kernel
theorem dX7_isName_24 : decode cX7_isName 24 = .ok (.ifCond .ne 7, 3) := by decide +kernel
theorem dX7_isName_27 : decode cX7_isName 27 = .ok (.iconst 1, 1) := by decide +kernel
theorem dX7_isName_28 : decode cX7_isName 28 = .ok (.goto 4, 3) := by decide +kernel
theorem dX7_isName_31 : decode cX7_isName 31 = .ok (.iconst 0, 1) := by decide +kernel
theorem dX7_isName_32 : decode cX7_isName 32 = .ok (.ireturn, 1) := by decide +kernel
theorem dX8_init_0 : decode cX8_init 0 = .ok (.aload_n 0, 1) := by decide +kernel
theorem dX8_init_1 : decode cX8_init 1 = .ok (.invokespecial 3, 3) := by decide +kernel
theorem dX8_init_4 : decode cX8_init 4 = .ok (.aload_n 0, 1) := by decide +kernel
theorem dX8_init_5 : decode cX8_init 5 = .ok (.bipush 12, 2) := by decide +kernel
theorem dX8_init_7 : decode cX8_init 7 = .ok (.newarray .int, 2) := by decide +kernel
theorem dX8_init_9 : decode cX8_init 9 = .ok (.putfield 11, 3) := by decide +kernel
theorem dX8_init_12 : decode cX8_init 12 = .ok (.aload_n 0, 1) := by decide +kernel
theorem dX8_init_13 : decode cX8_init 13 = .ok (.iconst 0, 1) := by decide +kernel
theorem dX8_init_14 : decode cX8_init 14 = .ok (.putfield 15, 3) := by decide +kernel
theorem dX8_init_17 : decode cX8_init 17 = .ok (.return_, 1) := by decide +kernel
theorem dX8_copyFrom_0 : decode cX8_copyFrom 0 = .ok (.aload_n 0, 1) := by decide +kernel
theorem dX8_copyFrom_1 : decode cX8_copyFrom 1 = .ok (.aload_n 1, 1) := by decide +kernel
theorem dX8_copyFrom_2 : decode cX8_copyFrom 2 = .ok (.getfield 15, 3) := by decide +kernel
theorem dX8_copyFrom_5 : decode cX8_copyFrom 5 = .ok (.putfield 15, 3) := by decide +kernel
theorem dX8_copyFrom_8 : decode cX8_copyFrom 8 = .ok (.aload_n 1, 1) := by decide +kernel
theorem dX8_copyFrom_9 : decode cX8_copyFrom 9 = .ok (.getfield 11, 3) := by decide +kernel
theorem dX8_copyFrom_12 : decode cX8_copyFrom 12 = .ok (.iconst 0, 1) := by decide +kernel
theorem dX8_copyFrom_13 : decode cX8_copyFrom 13 = .ok (.aload_n 0, 1) := by decide +kernel
theorem dX8_copyFrom_14 : decode cX8_copyFrom 14 = .ok (.getfield 11, 3) := by decide +kernel
theorem dX8_copyFrom_17 : decode cX8_copyFrom 17 = .ok (.iconst 0, 1) := by decide +kernel
theorem dX8_copyFrom_18 : decode cX8_copyFrom 18 = .ok (.aload_n 0, 1) := by decide +kernel
theorem dX8_copyFrom_19 : decode cX8_copyFrom 19 = .ok (.getfield 11, 3) := by decide +kernel
theorem dX8_copyFrom_22 : decode cX8_copyFrom 22 = .ok (.arraylength, 1) := by decide +kernel
theorem dX8_copyFrom_23 : decode cX8_copyFrom 23 = .ok (.invokestatic 19, 3) := by decide +kernel
theorem dX8_copyFrom_26 : decode cX8_copyFrom 26 = .ok (.return_, 1) := by decide +kernel
theorem dX8_cell_0 : decode cX8_cell 0 = .ok (.iload_n 1, 1) := by decide +kernel
theorem dX8_cell_1 : decode cX8_cell 1 = .ok (.iconst 3, 1) := by decide +kernel
theorem dX8_cell_2 : decode cX8_cell 2 = .ok (.imul, 1) := by decide +kernel
theorem dX8_cell_3 : decode cX8_cell 3 = .ok (.iload_n 2, 1) := by decide +kernel
theorem dX8_cell_4 : decode cX8_cell 4 = .ok (.iadd, 1) := by decide +kernel
theorem dX8_cell_5 : decode cX8_cell 5 = .ok (.istore_n 3, 1) := by decide +kernel
theorem dX8_cell_6 : decode cX8_cell 6 = .ok (.iload_n 3, 1) := by decide +kernel
theorem dX8_cell_7 : decode cX8_cell 7 = .ok (.ifCond .lt 21, 3) := by decide +kernel
theorem dX8_cell_10 : decode cX8_cell 10 = .ok (.iload_n 3, 1) := by decide +kernel
theorem dX8_cell_11 : decode cX8_cell 11 = .ok (.aload_n 0, 1) := by decide +kernel
theorem dX8_cell_12 : decode cX8_cell 12 = .ok (.getfield 11, 3) := by decide +kernel
theorem dX8_cell_15 : decode cX8_cell 15 = .ok (.arraylength, 1) := by decide +kernel
theorem dX8_cell_16 : decode cX8_cell 16 = .ok (.if_icmp .ge 12, 3) := by decide +kernel
theorem dX8_cell_19 : decode cX8_cell 19 = .ok (.aload_n 0, 1) := by decide +kernel
theorem dX8_cell_20 : decode cX8_cell 20 = .ok (.getfield 11, 3) := by decide +kernel
theorem dX8_cell_23 : decode cX8_cell 23 = .ok (.iload_n 3, 1) := by decide +kernel
theorem dX8_cell_24 : decode cX8_cell 24 = .ok (.iaload, 1) := by decide +kernel
theorem dX8_cell_25 : decode cX8_cell 25 = .ok (.goto 4, 3) := by decide +kernel
theorem dX8_cell_28 : decode cX8_cell 28 = .ok (.iconst 0, 1) := by decide +kernel
theorem dX8_cell_29 : decode cX8_cell 29 = .ok (.ireturn, 1) := by decide +kernel
theorem dX8_putCell_0 : decode cX8_putCell 0 = .ok (.iload_n 1, 1) := by decide +kernel
theorem dX8_putCell_1 : decode cX8_putCell 1 = .ok (.iconst 3, 1) := by decide +kernel
theorem dX8_putCell_2 : decode cX8_putCell 2 = .ok (.imul, 1) := by decide +kernel
theorem dX8_putCell_3 : decode cX8_putCell 3 = .ok (.iload_n 2, 1) := by decide +kernel
theorem dX8_putCell_4 : decode cX8_putCell 4 = .ok (.iadd, 1) := by decide +kernel
theorem dX8_putCell_5 : decode cX8_putCell 5 = .ok (.istore 4, 2) := by decide +kernel
theorem dX8_putCell_7 : decode cX8_putCell 7 = .ok (.iload 4, 2) := by decide +kernel
theorem dX8_putCell_9 : decode cX8_putCell 9 = .ok (.ifCond .lt 21, 3) := by decide +kernel
theorem dX8_putCell_12 : decode cX8_putCell 12 = .ok (.iload 4, 2) := by decide +kernel
theorem dX8_putCell_14 : decode cX8_putCell 14 = .ok (.aload_n 0, 1) := by decide +kernel
theorem dX8_putCell_15 : decode cX8_putCell 15 = .ok (.getfield 11, 3) := by decide +kernel
theorem dX8_putCell_18 : decode cX8_putCell 18 = .ok (.arraylength, 1) := by decide +kernel
theorem dX8_putCell_19 : decode cX8_putCell 19 = .ok (.if_icmp .ge 11, 3) := by decide +kernel
theorem dX8_putCell_22 : decode cX8_putCell 22 = .ok (.aload_n 0, 1) := by decide +kernel
theorem dX8_putCell_23 : decode cX8_putCell 23 = .ok (.getfield 11, 3) := by decide +kernel
theorem dX8_putCell_26 : decode cX8_putCell 26 = .ok (.iload 4, 2) := by decide +kernel
theorem dX8_putCell_28 : decode cX8_putCell 28 = .ok (.iload_n 3, 1) := by decide +kernel
theorem dX8_putCell_29 : decode cX8_putCell 29 = .ok (.iastore, 1) := by decide +kernel
theorem dX8_putCell_30 : decode cX8_putCell 30 = .ok (.return_, 1) := by decide +kernel
theorem dX8_isGeared_0 : decode cX8_isGeared 0 = .ok (.aload_n 0, 1) := by decide +kernel
theorem dX8_isGeared_1 : decode cX8_isGeared 1 = .ok (.iload_n 1, 1) := by decide +kernel
theorem dX8_isGeared_2 : decode cX8_isGeared 2 = .ok (.iconst 0, 1) := by decide +kernel
theorem dX8_isGeared_3 : decode cX8_isGeared 3 = .ok (.invokevirtual 25, 3) := by decide +kernel
theorem dX8_isGeared_6 : decode cX8_isGeared 6 = .ok (.iconst 2, 1) := by decide +kernel
theorem dX8_isGeared_7 : decode cX8_isGeared 7 = .ok (.if_icmp .eq 7, 3) := by decide +kernel
theorem dX8_isGeared_10 : decode cX8_isGeared 10 = .ok (.iconst 1, 1) := by decide +kernel
theorem dX8_isGeared_11 : decode cX8_isGeared 11 = .ok (.goto 4, 3) := by decide +kernel
theorem dX8_isGeared_14 : decode cX8_isGeared 14 = .ok (.iconst 0, 1) := by decide +kernel
theorem dX8_isGeared_15 : decode cX8_isGeared 15 = .ok (.ireturn, 1) := by decide +kernel
theorem dX8_hasRoomFor_0 : decode cX8_hasRoomFor 0 = .ok (.aload_n 0, 1) := by decide +kernel
theorem dX8_hasRoomFor_1 : decode cX8_hasRoomFor 1 = .ok (.getfield 15, 3) := by decide +kernel
theorem dX8_hasRoomFor_4 : decode cX8_hasRoomFor 4 = .ok (.iconst 4, 1) := by decide +kernel
theorem dX8_hasRoomFor_5 : decode cX8_hasRoomFor 5 = .ok (.if_icmp .ge 20, 3) := by decide +kernel
theorem dX8_hasRoomFor_8 : decode cX8_hasRoomFor 8 = .ok (.iload_n 1, 1) := by decide +kernel
theorem dX8_hasRoomFor_9 : decode cX8_hasRoomFor 9 = .ok (.iconst 2, 1) := by decide +kernel
theorem dX8_hasRoomFor_10 : decode cX8_hasRoomFor 10 = .ok (.if_icmp .eq 11, 3) := by decide +kernel
theorem dX8_hasRoomFor_13 : decode cX8_hasRoomFor 13 = .ok (.aload_n 0, 1) := by decide +kernel
theorem dX8_hasRoomFor_14 : decode cX8_hasRoomFor 14 = .ok (.invokevirtual 29, 3) := by decide +kernel
theorem dX8_hasRoomFor_17 : decode cX8_hasRoomFor 17 = .ok (.iconst 2, 1) := by decide +kernel
theorem dX8_hasRoomFor_18 : decode cX8_hasRoomFor 18 = .ok (.if_icmp .ge 7, 3) := by decide +kernel
theorem dX8_hasRoomFor_21 : decode cX8_hasRoomFor 21 = .ok (.iconst 1, 1) := by decide +kernel
theorem dX8_hasRoomFor_22 : decode cX8_hasRoomFor 22 = .ok (.goto 4, 3) := by decide +kernel
theorem dX8_hasRoomFor_25 : decode cX8_hasRoomFor 25 = .ok (.iconst 0, 1) := by decide +kernel
theorem dX8_hasRoomFor_26 : decode cX8_hasRoomFor 26 = .ok (.ireturn, 1) := by decide +kernel
theorem dX8_append_0 : decode cX8_append 0 = .ok (.aload_n 0, 1) := by decide +kernel
theorem dX8_append_1 : decode cX8_append 1 = .ok (.getfield 15, 3) := by decide +kernel
theorem dX8_append_4 : decode cX8_append 4 = .ok (.iconst 4, 1) := by decide +kernel
theorem dX8_append_5 : decode cX8_append 5 = .ok (.if_icmp .ge 43, 3) := by decide +kernel
theorem dX8_append_8 : decode cX8_append 8 = .ok (.aload_n 0, 1) := by decide +kernel
theorem dX8_append_9 : decode cX8_append 9 = .ok (.aload_n 0, 1) := by decide +kernel
theorem dX8_append_10 : decode cX8_append 10 = .ok (.getfield 15, 3) := by decide +kernel
theorem dX8_append_13 : decode cX8_append 13 = .ok (.iconst 0, 1) := by decide +kernel
theorem dX8_append_14 : decode cX8_append 14 = .ok (.iload_n 1, 1) := by decide +kernel
theorem dX8_append_15 : decode cX8_append 15 = .ok (.invokevirtual 33, 3) := by decide +kernel
theorem dX8_append_18 : decode cX8_append 18 = .ok (.aload_n 0, 1) := by decide +kernel
theorem dX8_append_19 : decode cX8_append 19 = .ok (.aload_n 0, 1) := by decide +kernel
theorem dX8_append_20 : decode cX8_append 20 = .ok (.getfield 15, 3) := by decide +kernel
theorem dX8_append_23 : decode cX8_append 23 = .ok (.iconst 1, 1) := by decide +kernel
theorem dX8_append_24 : decode cX8_append 24 = .ok (.iload_n 2, 1) := by decide +kernel
theorem dX8_append_25 : decode cX8_append 25 = .ok (.invokevirtual 33, 3) := by decide +kernel
theorem dX8_append_28 : decode cX8_append 28 = .ok (.aload_n 0, 1) := by decide +kernel
theorem dX8_append_29 : decode cX8_append 29 = .ok (.aload_n 0, 1) := by decide +kernel
theorem dX8_append_30 : decode cX8_append 30 = .ok (.getfield 15, 3) := by decide +kernel
theorem dX8_append_33 : decode cX8_append 33 = .ok (.iconst 2, 1) := by decide +kernel
theorem dX8_append_34 : decode cX8_append 34 = .ok (.iload_n 3, 1) := by decide +kernel
theorem dX8_append_35 : decode cX8_append 35 = .ok (.invokevirtual 33, 3) := by decide +kernel
theorem dX8_append_38 : decode cX8_append 38 = .ok (.aload_n 0, 1) := by decide +kernel
theorem dX8_append_39 : decode cX8_append 39 = .ok (.dup, 1) := by decide +kernel
theorem dX8_append_40 : decode cX8_append 40 = .ok (.getfield 15, 3) := by decide +kernel
theorem dX8_append_43 : decode cX8_append 43 = .ok (.iconst 1, 1) := by decide +kernel
theorem dX8_append_44 : decode cX8_append 44 = .ok (.iadd, 1) := by decide +kernel
theorem dX8_append_45 : decode cX8_append 45 = .ok (.putfield 15, 3) := by decide +kernel
theorem dX8_append_48 : decode cX8_append 48 = .ok (.return_, 1) := by decide +kernel
theorem dX8_gearedParts_0 : decode cX8_gearedParts 0 = .ok (.iconst 0, 1) := by decide +kernel
theorem dX8_gearedParts_1 : decode cX8_gearedParts 1 = .ok (.istore_n 1, 1) := by decide +kernel
theorem dX8_gearedParts_2 : decode cX8_gearedParts 2 = .ok (.iconst 0, 1) := by decide +kernel
theorem dX8_gearedParts_3 : decode cX8_gearedParts 3 = .ok (.istore_n 2, 1) := by decide +kernel
theorem dX8_gearedParts_4 : decode cX8_gearedParts 4 = .ok (.iload_n 2, 1) := by decide +kernel
theorem dX8_gearedParts_5 : decode cX8_gearedParts 5 = .ok (.aload_n 0, 1) := by decide +kernel
theorem dX8_gearedParts_6 : decode cX8_gearedParts 6 = .ok (.getfield 15, 3) := by decide +kernel
theorem dX8_gearedParts_9 : decode cX8_gearedParts 9 = .ok (.if_icmp .ge 26, 3) := by decide +kernel
theorem dX8_gearedParts_12 : decode cX8_gearedParts 12 = .ok (.aload_n 0, 1) := by decide +kernel
theorem dX8_gearedParts_13 : decode cX8_gearedParts 13 = .ok (.getfield 11, 3) := by decide +kernel
theorem dX8_gearedParts_16 : decode cX8_gearedParts 16 = .ok (.iload_n 2, 1) := by decide +kernel
theorem dX8_gearedParts_17 : decode cX8_gearedParts 17 = .ok (.iconst 3, 1) := by decide +kernel
theorem dX8_gearedParts_18 : decode cX8_gearedParts 18 = .ok (.imul, 1) := by decide +kernel
theorem dX8_gearedParts_19 : decode cX8_gearedParts 19 = .ok (.iconst 0, 1) := by decide +kernel
theorem dX8_gearedParts_20 : decode cX8_gearedParts 20 = .ok (.iadd, 1) := by decide +kernel
theorem dX8_gearedParts_21 : decode cX8_gearedParts 21 = .ok (.iaload, 1) := by decide +kernel
theorem dX8_gearedParts_22 : decode cX8_gearedParts 22 = .ok (.iconst 2, 1) := by decide +kernel
theorem dX8_gearedParts_23 : decode cX8_gearedParts 23 = .ok (.if_icmp .eq 6, 3) := by decide +kernel
theorem dX8_gearedParts_26 : decode cX8_gearedParts 26 = .ok (.iinc 1 1, 3) := by decide +kernel
theorem dX8_gearedParts_29 : decode cX8_gearedParts 29 = .ok (.iinc 2 1, 3) := by decide +kernel
theorem dX8_gearedParts_32 : decode cX8_gearedParts 32 = .ok (.goto (-28), 3) := by decide +kernel
theorem dX8_gearedParts_35 : decode cX8_gearedParts 35 = .ok (.iload_n 1, 1) := by decide +kernel
theorem dX8_gearedParts_36 : decode cX8_gearedParts 36 = .ok (.ireturn, 1) := by decide +kernel
theorem dX8_meshes_0 : decode cX8_meshes 0 = .ok (.iconst 2, 1) := by decide +kernel
theorem dX8_meshes_1 : decode cX8_meshes 1 = .ok (.aload_n 0, 1) := by decide +kernel
theorem dX8_meshes_2 : decode cX8_meshes 2 = .ok (.getfield 15, 3) := by decide +kernel
theorem dX8_meshes_5 : decode cX8_meshes 5 = .ok (.imul, 1) := by decide +kernel
theorem dX8_meshes_6 : decode cX8_meshes 6 = .ok (.aload_n 0, 1) := by decide +kernel
theorem dX8_meshes_7 : decode cX8_meshes 7 = .ok (.invokevirtual 29, 3) := by decide +kernel
theorem dX8_meshes_10 : decode cX8_meshes 10 = .ok (.isub, 1) := by decide +kernel
theorem dX8_meshes_11 : decode cX8_meshes 11 = .ok (.ireturn, 1) := by decide +kernel
theorem dX8_teethTogether_0 : decode cX8_teethTogether 0 = .ok (.iconst 0, 1) := by decide +kernel
theorem dX8_teethTogether_1 : decode cX8_teethTogether 1 = .ok (.istore_n 1, 1) := by decide +kernel
theorem dX8_teethTogether_2 : decode cX8_teethTogether 2 = .ok (.iconst 0, 1) := by decide +kernel
theorem dX8_teethTogether_3 : decode cX8_teethTogether 3 = .ok (.istore_n 2, 1) := by decide +kernel
theorem dX8_teethTogether_4 : decode cX8_teethTogether 4 = .ok (.iload_n 2, 1) := by decide +kernel
theorem dX8_teethTogether_5 : decode cX8_teethTogether 5 = .ok (.aload_n 0, 1) := by decide +kernel
theorem dX8_teethTogether_6 : decode cX8_teethTogether 6 = .ok (.getfield 15, 3) := by decide +kernel
theorem dX8_teethTogether_9 : decode cX8_teethTogether 9 = .ok (.if_icmp .ge 25, 3) := by decide +kernel
theorem dX8_teethTogether_12 : decode cX8_teethTogether 12 = .ok (.iload_n 1, 1) := by decide +kernel
theorem dX8_teethTogether_13 : decode cX8_teethTogether 13 = .ok (.aload_n 0, 1) := by decide +kernel
theorem dX8_teethTogether_14 : decode cX8_teethTogether 14 = .ok (.iload_n 2, 1) := by decide +kernel
theorem dX8_teethTogether_15 : decode cX8_teethTogether 15 = .ok (.iconst 1, 1) := by decide +kernel
theorem dX8_teethTogether_16 : decode cX8_teethTogether 16 = .ok (.invokevirtual 25, 3) := by decide +kernel
theorem dX8_teethTogether_19 : decode cX8_teethTogether 19 = .ok (.aload_n 0, 1) := by decide +kernel
theorem dX8_teethTogether_20 : decode cX8_teethTogether 20 = .ok (.iload_n 2, 1) := by decide +kernel
theorem dX8_teethTogether_21 : decode cX8_teethTogether 21 = .ok (.iconst 2, 1) := by decide +kernel
theorem dX8_teethTogether_22 : decode cX8_teethTogether 22 = .ok (.invokevirtual 25, 3) := by decide +kernel
theorem dX8_teethTogether_25 : decode cX8_teethTogether 25 = .ok (.iadd, 1) := by decide +kernel
theorem dX8_teethTogether_26 : decode cX8_teethTogether 26 = .ok (.iadd, 1) := by decide +kernel
theorem dX8_teethTogether_27 : decode cX8_teethTogether 27 = .ok (.istore_n 1, 1) := by decide +kernel
theorem dX8_teethTogether_28 : decode cX8_teethTogether 28 = .ok (.iinc 2 1, 3) := by decide +kernel
theorem dX8_teethTogether_31 : decode cX8_teethTogether 31 = .ok (.goto (-27), 3) := by decide +kernel
theorem dX8_teethTogether_34 : decode cX8_teethTogether 34 = .ok (.iload_n 1, 1) := by decide +kernel
theorem dX8_teethTogether_35 : decode cX8_teethTogether 35 = .ok (.ireturn, 1) := by decide +kernel
theorem dX8_wheelsWith_0 : decode cX8_wheelsWith 0 = .ok (.iconst 0, 1) := by decide +kernel
theorem dX8_wheelsWith_1 : decode cX8_wheelsWith 1 = .ok (.istore_n 2, 1) := by decide +kernel
theorem dX8_wheelsWith_2 : decode cX8_wheelsWith 2 = .ok (.iconst 0, 1) := by decide +kernel
theorem dX8_wheelsWith_3 : decode cX8_wheelsWith 3 = .ok (.istore_n 3, 1) := by decide +kernel
theorem dX8_wheelsWith_4 : decode cX8_wheelsWith 4 = .ok (.iload_n 3, 1) := by decide +kernel
theorem dX8_wheelsWith_5 : decode cX8_wheelsWith 5 = .ok (.aload_n 0, 1) := by decide +kernel
theorem dX8_wheelsWith_6 : decode cX8_wheelsWith 6 = .ok (.getfield 15, 3) := by decide +kernel
theorem dX8_wheelsWith_9 : decode cX8_wheelsWith 9 = .ok (.if_icmp .ge 43, 3) := by decide +kernel
theorem dX8_wheelsWith_12 : decode cX8_wheelsWith 12 = .ok (.aload_n 0, 1) := by decide +kernel
theorem dX8_wheelsWith_13 : decode cX8_wheelsWith 13 = .ok (.iload_n 3, 1) := by decide +kernel
theorem dX8_wheelsWith_14 : decode cX8_wheelsWith 14 = .ok (.iconst 1, 1) := by decide +kernel
theorem dX8_wheelsWith_15 : decode cX8_wheelsWith 15 = .ok (.invokevirtual 25, 3) := by decide +kernel
theorem dX8_wheelsWith_18 : decode cX8_wheelsWith 18 = .ok (.iload_n 1, 1) := by decide +kernel
theorem dX8_wheelsWith_19 : decode cX8_wheelsWith 19 = .ok (.if_icmp .ne 6, 3) := by decide +kernel
theorem dX8_wheelsWith_22 : decode cX8_wheelsWith 22 = .ok (.iinc 2 1, 3) := by decide +kernel
theorem dX8_wheelsWith_25 : decode cX8_wheelsWith 25 = .ok (.aload_n 0, 1) := by decide +kernel
theorem dX8_wheelsWith_26 : decode cX8_wheelsWith 26 = .ok (.iload_n 3, 1) := by decide +kernel
theorem dX8_wheelsWith_27 : decode cX8_wheelsWith 27 = .ok (.invokevirtual 37, 3) := by decide +kernel
theorem dX8_wheelsWith_30 : decode cX8_wheelsWith 30 = .ok (.ifCond .eq 16, 3) := by decide +kernel
theorem dX8_wheelsWith_33 : decode cX8_wheelsWith 33 = .ok (.aload_n 0, 1) := by decide +kernel
theorem dX8_wheelsWith_34 : decode cX8_wheelsWith 34 = .ok (.iload_n 3, 1) := by decide +kernel
theorem dX8_wheelsWith_35 : decode cX8_wheelsWith 35 = .ok (.iconst 2, 1) := by decide +kernel
theorem dX8_wheelsWith_36 : decode cX8_wheelsWith 36 = .ok (.invokevirtual 25, 3) := by decide +kernel
theorem dX8_wheelsWith_39 : decode cX8_wheelsWith 39 = .ok (.iload_n 1, 1) := by decide +kernel
theorem dX8_wheelsWith_40 : decode cX8_wheelsWith 40 = .ok (.if_icmp .ne 6, 3) := by decide +kernel
theorem dX8_wheelsWith_43 : decode cX8_wheelsWith 43 = .ok (.iinc 2 1, 3) := by decide +kernel
theorem dX8_wheelsWith_46 : decode cX8_wheelsWith 46 = .ok (.iinc 3 1, 3) := by decide +kernel
theorem dX8_wheelsWith_49 : decode cX8_wheelsWith 49 = .ok (.goto (-45), 3) := by decide +kernel
theorem dX8_wheelsWith_52 : decode cX8_wheelsWith 52 = .ok (.iload_n 2, 1) := by decide +kernel
theorem dX8_wheelsWith_53 : decode cX8_wheelsWith 53 = .ok (.ireturn, 1) := by decide +kernel
theorem dX8_ratioTop_0 : decode cX8_ratioTop 0 = .ok (.aload_n 0, 1) := by decide +kernel
theorem dX8_ratioTop_1 : decode cX8_ratioTop 1 = .ok (.getfield 15, 3) := by decide +kernel
theorem dX8_ratioTop_4 : decode cX8_ratioTop 4 = .ok (.ifCond .ne 5, 3) := by decide +kernel
theorem dX8_ratioTop_7 : decode cX8_ratioTop 7 = .ok (.lconst 0, 1) := by decide +kernel
theorem dX8_ratioTop_8 : decode cX8_ratioTop 8 = .ok (.lreturn, 1) := by decide +kernel
theorem dX8_ratioTop_9 : decode cX8_ratioTop 9 = .ok (.lconst 1, 1) := by decide +kernel
theorem dX8_ratioTop_10 : decode cX8_ratioTop 10 = .ok (.lstore_n 1, 1) := by decide +kernel
theorem dX8_ratioTop_11 : decode cX8_ratioTop 11 = .ok (.iconst 0, 1) := by decide +kernel
theorem dX8_ratioTop_12 : decode cX8_ratioTop 12 = .ok (.istore_n 3, 1) := by decide +kernel
theorem dX8_ratioTop_13 : decode cX8_ratioTop 13 = .ok (.iload_n 3, 1) := by decide +kernel
theorem dX8_ratioTop_14 : decode cX8_ratioTop 14 = .ok (.aload_n 0, 1) := by decide +kernel
theorem dX8_ratioTop_15 : decode cX8_ratioTop 15 = .ok (.getfield 15, 3) := by decide +kernel
theorem dX8_ratioTop_18 : decode cX8_ratioTop 18 = .ok (.if_icmp .ge 53, 3) := by decide +kernel
theorem dX8_ratioTop_21 : decode cX8_ratioTop 21 = .ok (.aload_n 0, 1) := by decide +kernel
theorem dX8_ratioTop_22 : decode cX8_ratioTop 22 = .ok (.iload_n 3, 1) := by decide +kernel
theorem dX8_ratioTop_23 : decode cX8_ratioTop 23 = .ok (.iconst 0, 1) := by decide +kernel
theorem dX8_ratioTop_24 : decode cX8_ratioTop 24 = .ok (.invokevirtual 25, 3) := by decide +kernel
theorem dX8_ratioTop_27 : decode cX8_ratioTop 27 = .ok (.istore 4, 2) := by decide +kernel
theorem dX8_ratioTop_29 : decode cX8_ratioTop 29 = .ok (.lload_n 1, 1) := by decide +kernel
theorem dX8_ratioTop_30 : decode cX8_ratioTop 30 = .ok (.iload 4, 2) := by decide +kernel
theorem dX8_ratioTop_32 : decode cX8_ratioTop 32 = .ok (.iconst 1, 1) := by decide +kernel
theorem dX8_ratioTop_33 : decode cX8_ratioTop 33 = .ok (.if_icmp .ne 7, 3) := by decide +kernel
theorem dX8_ratioTop_36 : decode cX8_ratioTop 36 = .ok (.lconst 1, 1) := by decide +kernel
theorem dX8_ratioTop_37 : decode cX8_ratioTop 37 = .ok (.goto 6, 3) := by decide +kernel
theorem dX8_ratioTop_40 : decode cX8_ratioTop 40 = .ok (.ldc2_w 41, 3) := by decide +kernel
theorem dX8_ratioTop_43 : decode cX8_ratioTop 43 = .ok (.lmul, 1) := by decide +kernel
theorem dX8_ratioTop_44 : decode cX8_ratioTop 44 = .ok (.lstore_n 1, 1) := by decide +kernel
theorem dX8_ratioTop_45 : decode cX8_ratioTop 45 = .ok (.lload_n 1, 1) := by decide +kernel
theorem dX8_ratioTop_46 : decode cX8_ratioTop 46 = .ok (.iload 4, 2) := by decide +kernel
theorem dX8_ratioTop_48 : decode cX8_ratioTop 48 = .ok (.iconst 2, 1) := by decide +kernel
theorem dX8_ratioTop_49 : decode cX8_ratioTop 49 = .ok (.if_icmp .ne 7, 3) := by decide +kernel
theorem dX8_ratioTop_52 : decode cX8_ratioTop 52 = .ok (.lconst 1, 1) := by decide +kernel
theorem dX8_ratioTop_53 : decode cX8_ratioTop 53 = .ok (.goto 10, 3) := by decide +kernel
theorem dX8_ratioTop_56 : decode cX8_ratioTop 56 = .ok (.aload_n 0, 1) := by decide +kernel
theorem dX8_ratioTop_57 : decode cX8_ratioTop 57 = .ok (.iload_n 3, 1) := by decide +kernel
theorem dX8_ratioTop_58 : decode cX8_ratioTop 58 = .ok (.iconst 1, 1) := by decide +kernel
theorem dX8_ratioTop_59 : decode cX8_ratioTop 59 = .ok (.invokevirtual 25, 3) := by decide +kernel
theorem dX8_ratioTop_62 : decode cX8_ratioTop 62 = .ok (.i2l, 1) := by decide +kernel
theorem dX8_ratioTop_63 : decode cX8_ratioTop 63 = .ok (.lmul, 1) := by decide +kernel
theorem dX8_ratioTop_64 : decode cX8_ratioTop 64 = .ok (.lstore_n 1, 1) := by decide +kernel
theorem dX8_ratioTop_65 : decode cX8_ratioTop 65 = .ok (.iinc 3 1, 3) := by decide +kernel
theorem dX8_ratioTop_68 : decode cX8_ratioTop 68 = .ok (.goto (-55), 3) := by decide +kernel
theorem dX8_ratioTop_71 : decode cX8_ratioTop 71 = .ok (.lload_n 1, 1) := by decide +kernel
theorem dX8_ratioTop_72 : decode cX8_ratioTop 72 = .ok (.lreturn, 1) := by decide +kernel
theorem dX8_ratioBottom_0 : decode cX8_ratioBottom 0 = .ok (.lconst 1, 1) := by decide +kernel
theorem dX8_ratioBottom_1 : decode cX8_ratioBottom 1 = .ok (.lstore_n 1, 1) := by decide +kernel
theorem dX8_ratioBottom_2 : decode cX8_ratioBottom 2 = .ok (.iconst 0, 1) := by decide +kernel
theorem dX8_ratioBottom_3 : decode cX8_ratioBottom 3 = .ok (.istore_n 3, 1) := by decide +kernel
theorem dX8_ratioBottom_4 : decode cX8_ratioBottom 4 = .ok (.iload_n 3, 1) := by decide +kernel
theorem dX8_ratioBottom_5 : decode cX8_ratioBottom 5 = .ok (.aload_n 0, 1) := by decide +kernel
theorem dX8_ratioBottom_6 : decode cX8_ratioBottom 6 = .ok (.getfield 15, 3) := by decide +kernel
theorem dX8_ratioBottom_9 : decode cX8_ratioBottom 9 = .ok (.if_icmp .ge 31, 3) := by decide +kernel
theorem dX8_ratioBottom_12 : decode cX8_ratioBottom 12 = .ok (.lload_n 1, 1) := by decide +kernel
theorem dX8_ratioBottom_13 : decode cX8_ratioBottom 13 = .ok (.aload_n 0, 1) := by decide +kernel
theorem dX8_ratioBottom_14 : decode cX8_ratioBottom 14 = .ok (.iload_n 3, 1) := by decide +kernel
theorem dX8_ratioBottom_15 : decode cX8_ratioBottom 15 = .ok (.invokevirtual 37, 3) := by decide +kernel
theorem dX8_ratioBottom_18 : decode cX8_ratioBottom 18 = .ok (.ifCond .eq 13, 3) := by decide +kernel
theorem dX8_ratioBottom_21 : decode cX8_ratioBottom 21 = .ok (.aload_n 0, 1) := by decide +kernel
theorem dX8_ratioBottom_22 : decode cX8_ratioBottom 22 = .ok (.iload_n 3, 1) := by decide +kernel
theorem dX8_ratioBottom_23 : decode cX8_ratioBottom 23 = .ok (.iconst 2, 1) := by decide +kernel
theorem dX8_ratioBottom_24 : decode cX8_ratioBottom 24 = .ok (.invokevirtual 25, 3) := by decide +kernel
theorem dX8_ratioBottom_27 : decode cX8_ratioBottom 27 = .ok (.i2l, 1) := by decide +kernel
theorem dX8_ratioBottom_28 : decode cX8_ratioBottom 28 = .ok (.goto 4, 3) := by decide +kernel
theorem dX8_ratioBottom_31 : decode cX8_ratioBottom 31 = .ok (.lconst 1, 1) := by decide +kernel
theorem dX8_ratioBottom_32 : decode cX8_ratioBottom 32 = .ok (.lmul, 1) := by decide +kernel
theorem dX8_ratioBottom_33 : decode cX8_ratioBottom 33 = .ok (.lstore_n 1, 1) := by decide +kernel
theorem dX8_ratioBottom_34 : decode cX8_ratioBottom 34 = .ok (.iinc 3 1, 3) := by decide +kernel
theorem dX8_ratioBottom_37 : decode cX8_ratioBottom 37 = .ok (.goto (-33), 3) := by decide +kernel
theorem dX8_ratioBottom_40 : decode cX8_ratioBottom 40 = .ok (.lload_n 1, 1) := by decide +kernel
theorem dX8_ratioBottom_41 : decode cX8_ratioBottom 41 = .ok (.lreturn, 1) := by decide +kernel
theorem dX8_playWith_0 : decode cX8_playWith 0 = .ok (.lconst 0, 1) := by decide +kernel
theorem dX8_playWith_1 : decode cX8_playWith 1 = .ok (.lstore_n 2, 1) := by decide +kernel
theorem dX8_playWith_2 : decode cX8_playWith 2 = .ok (.lconst 1, 1) := by decide +kernel
theorem dX8_playWith_3 : decode cX8_playWith 3 = .ok (.lstore 4, 2) := by decide +kernel
theorem dX8_playWith_5 : decode cX8_playWith 5 = .ok (.iconst 0, 1) := by decide +kernel
theorem dX8_playWith_6 : decode cX8_playWith 6 = .ok (.istore 6, 2) := by decide +kernel
theorem dX8_playWith_8 : decode cX8_playWith 8 = .ok (.iload 6, 2) := by decide +kernel
theorem dX8_playWith_10 : decode cX8_playWith 10 = .ok (.aload_n 0, 1) := by decide +kernel
theorem dX8_playWith_11 : decode cX8_playWith 11 = .ok (.getfield 15, 3) := by decide +kernel
theorem dX8_playWith_14 : decode cX8_playWith 14 = .ok (.if_icmp .ge 61, 3) := by decide +kernel
theorem dX8_playWith_17 : decode cX8_playWith 17 = .ok (.aload_n 0, 1) := by decide +kernel
theorem dX8_playWith_18 : decode cX8_playWith 18 = .ok (.iload 6, 2) := by decide +kernel
theorem dX8_playWith_20 : decode cX8_playWith 20 = .ok (.invokevirtual 37, 3) := by decide +kernel
theorem dX8_playWith_23 : decode cX8_playWith 23 = .ok (.ifCond .eq 36, 3) := by decide +kernel
theorem dX8_playWith_26 : decode cX8_playWith 26 = .ok (.lload 4, 2) := by decide +kernel
theorem dX8_playWith_28 : decode cX8_playWith 28 = .ok (.aload_n 0, 1) := by decide +kernel
theorem dX8_playWith_29 : decode cX8_playWith 29 = .ok (.iload 6, 2) := by decide +kernel
theorem dX8_playWith_31 : decode cX8_playWith 31 = .ok (.iconst 2, 1) := by decide +kernel
theorem dX8_playWith_32 : decode cX8_playWith 32 = .ok (.invokevirtual 25, 3) := by decide +kernel
theorem dX8_playWith_35 : decode cX8_playWith 35 = .ok (.i2l, 1) := by decide +kernel
theorem dX8_playWith_36 : decode cX8_playWith 36 = .ok (.lmul, 1) := by decide +kernel
theorem dX8_playWith_37 : decode cX8_playWith 37 = .ok (.lstore 4, 2) := by decide +kernel
theorem dX8_playWith_39 : decode cX8_playWith 39 = .ok (.lload_n 2, 1) := by decide +kernel
theorem dX8_playWith_40 : decode cX8_playWith 40 = .ok (.aload_n 0, 1) := by decide +kernel
theorem dX8_playWith_41 : decode cX8_playWith 41 = .ok (.iload 6, 2) := by decide +kernel
theorem dX8_playWith_43 : decode cX8_playWith 43 = .ok (.iconst 1, 1) := by decide +kernel
theorem dX8_playWith_44 : decode cX8_playWith 44 = .ok (.invokevirtual 25, 3) := by decide +kernel
theorem dX8_playWith_47 : decode cX8_playWith 47 = .ok (.i2l, 1) := by decide +kernel
theorem dX8_playWith_48 : decode cX8_playWith 48 = .ok (.lmul, 1) := by decide +kernel
theorem dX8_playWith_49 : decode cX8_playWith 49 = .ok (.iload_n 1, 1) := by decide +kernel
theorem dX8_playWith_50 : decode cX8_playWith 50 = .ok (.i2l, 1) := by decide +kernel
theorem dX8_playWith_51 : decode cX8_playWith 51 = .ok (.lload 4, 2) := by decide +kernel
theorem dX8_playWith_53 : decode cX8_playWith 53 = .ok (.lmul, 1) := by decide +kernel
theorem dX8_playWith_54 : decode cX8_playWith 54 = .ok (.ladd, 1) := by decide +kernel
theorem dX8_playWith_55 : decode cX8_playWith 55 = .ok (.lstore_n 2, 1) := by decide +kernel
theorem dX8_playWith_56 : decode cX8_playWith 56 = .ok (.goto 13, 3) := by decide +kernel
theorem dX8_playWith_59 : decode cX8_playWith 59 = .ok (.lload_n 2, 1) := by decide +kernel
theorem dX8_playWith_60 : decode cX8_playWith 60 = .ok (.iconst 2, 1) := by decide +kernel
theorem dX8_playWith_61 : decode cX8_playWith 61 = .ok (.iload_n 1, 1) := by decide +kernel
theorem dX8_playWith_62 : decode cX8_playWith 62 = .ok (.imul, 1) := by decide +kernel
theorem dX8_playWith_63 : decode cX8_playWith 63 = .ok (.i2l, 1) := by decide +kernel
theorem dX8_playWith_64 : decode cX8_playWith 64 = .ok (.lload 4, 2) := by decide +kernel
theorem dX8_playWith_66 : decode cX8_playWith 66 = .ok (.lmul, 1) := by decide +kernel
theorem dX8_playWith_67 : decode cX8_playWith 67 = .ok (.ladd, 1) := by decide +kernel
theorem dX8_playWith_68 : decode cX8_playWith 68 = .ok (.lstore_n 2, 1) := by decide +kernel
theorem dX8_playWith_69 : decode cX8_playWith 69 = .ok (.iinc 6 1, 3) := by decide +kernel
theorem dX8_playWith_72 : decode cX8_playWith 72 = .ok (.goto (-64), 3) := by decide +kernel
theorem dX8_playWith_75 : decode cX8_playWith 75 = .ok (.lload 4, 2) := by decide +kernel
theorem dX8_playWith_77 : decode cX8_playWith 77 = .ok (.lconst 0, 1) := by decide +kernel
theorem dX8_playWith_78 : decode cX8_playWith 78 = .ok (.lcmp, 1) := by decide +kernel
theorem dX8_playWith_79 : decode cX8_playWith 79 = .ok (.ifCond .le 11, 3) := by decide +kernel
theorem dX8_playWith_82 : decode cX8_playWith 82 = .ok (.lload_n 2, 1) := by decide +kernel
theorem dX8_playWith_83 : decode cX8_playWith 83 = .ok (.lload 4, 2) := by decide +kernel
theorem dX8_playWith_85 : decode cX8_playWith 85 = .ok (.ldiv, 1) := by decide +kernel
theorem dX8_playWith_86 : decode cX8_playWith 86 = .ok (.l2i, 1) := by decide +kernel
theorem dX8_playWith_87 : decode cX8_playWith 87 = .ok (.goto 4, 3) := by decide +kernel
theorem dX8_playWith_90 : decode cX8_playWith 90 = .ok (.iconst 0, 1) := by decide +kernel
theorem dX8_playWith_91 : decode cX8_playWith 91 = .ok (.ireturn, 1) := by decide +kernel
theorem dX9_isOne_0 : decode cX9_isOne 0 = .ok (.iconst 0, 1) := by decide +kernel
theorem dX9_isOne_1 : decode cX9_isOne 1 = .ok (.istore_n 2, 1) := by decide +kernel
theorem dX9_isOne_2 : decode cX9_isOne 2 = .ok (.iload_n 2, 1) := by decide +kernel
theorem dX9_isOne_3 : decode cX9_isOne 3 = .ok (.getstatic 74, 3) := by decide +kernel
theorem dX9_isOne_6 : decode cX9_isOne 6 = .ok (.arraylength, 1) := by decide +kernel
theorem dX9_isOne_7 : decode cX9_isOne 7 = .ok (.if_icmp .ge 24, 3) := by decide +kernel
theorem dX9_isOne_10 : decode cX9_isOne 10 = .ok (.getstatic 74, 3) := by decide +kernel
theorem dX9_isOne_13 : decode cX9_isOne 13 = .ok (.iload_n 2, 1) := by decide +kernel
theorem dX9_isOne_14 : decode cX9_isOne 14 = .ok (.aaload, 1) := by decide +kernel
theorem dX9_isOne_15 : decode cX9_isOne 15 = .ok (.getfield 60, 3) := by decide +kernel
theorem dX9_isOne_18 : decode cX9_isOne 18 = .ok (.lload_n 0, 1) := by decide +kernel
theorem dX9_isOne_19 : decode cX9_isOne 19 = .ok (.lcmp, 1) := by decide +kernel
theorem dX9_isOne_20 : decode cX9_isOne 20 = .ok (.ifCond .ne 5, 3) := by decide +kernel
theorem dX9_isOne_23 : decode cX9_isOne 23 = .ok (.iconst 1, 1) := by decide +kernel
theorem dX9_isOne_24 : decode cX9_isOne 24 = .ok (.ireturn, 1) := by decide +kernel
theorem dX9_isOne_25 : decode cX9_isOne 25 = .ok (.iinc 2 1, 3) := by decide +kernel
theorem dX9_isOne_28 : decode cX9_isOne 28 = .ok (.goto (-26), 3) := by decide +kernel
theorem dX9_isOne_31 : decode cX9_isOne 31 = .ok (.iconst 0, 1) := by decide +kernel
theorem dX9_isOne_32 : decode cX9_isOne 32 = .ok (.ireturn, 1) := by decide +kernel
theorem dX10_init_0 : decode cX10_init 0 = .ok (.aload_n 0, 1) := by decide +kernel
theorem dX10_init_1 : decode cX10_init 1 = .ok (.invokespecial 1, 3) := by decide +kernel
theorem dX10_init_4 : decode cX10_init 4 = .ok (.aload_n 0, 1) := by decide +kernel
theorem dX10_init_5 : decode cX10_init 5 = .ok (.new 7, 3) := by decide +kernel
theorem dX10_init_8 : decode cX10_init 8 = .ok (.dup, 1) := by decide +kernel
theorem dX10_init_9 : decode cX10_init 9 = .ok (.invokespecial 9, 3) := by decide +kernel
theorem dX10_init_12 : decode cX10_init 12 = .ok (.putfield 10, 3) := by decide +kernel
theorem dX10_init_15 : decode cX10_init 15 = .ok (.aload_n 0, 1) := by decide +kernel
theorem dX10_init_16 : decode cX10_init 16 = .ok (.new 16, 3) := by decide +kernel
theorem dX10_init_19 : decode cX10_init 19 = .ok (.dup, 1) := by decide +kernel
theorem dX10_init_20 : decode cX10_init 20 = .ok (.invokespecial 18, 3) := by decide +kernel
theorem dX10_init_23 : decode cX10_init 23 = .ok (.putfield 19, 3) := by decide +kernel
theorem dX10_init_26 : decode cX10_init 26 = .ok (.aload_n 0, 1) := by decide +kernel
theorem dX10_init_27 : decode cX10_init 27 = .ok (.new 23, 3) := by decide +kernel
theorem dX10_init_30 : decode cX10_init 30 = .ok (.dup, 1) := by decide +kernel
theorem dX10_init_31 : decode cX10_init 31 = .ok (.invokespecial 25, 3) := by decide +kernel
theorem dX10_init_34 : decode cX10_init 34 = .ok (.putfield 26, 3) := by decide +kernel
theorem dX10_init_37 : decode cX10_init 37 = .ok (.aload_n 0, 1) := by decide +kernel
theorem dX10_init_38 : decode cX10_init 38 = .ok (.new 30, 3) := by decide +kernel
theorem dX10_init_41 : decode cX10_init 41 = .ok (.dup, 1) := by decide +kernel
theorem dX10_init_42 : decode cX10_init 42 = .ok (.invokespecial 32, 3) := by decide +kernel
theorem dX10_init_45 : decode cX10_init 45 = .ok (.putfield 33, 3) := by decide +kernel
theorem dX10_init_48 : decode cX10_init 48 = .ok (.aload_n 0, 1) := by decide +kernel
theorem dX10_init_49 : decode cX10_init 49 = .ok (.new 37, 3) := by decide +kernel
theorem dX10_init_52 : decode cX10_init 52 = .ok (.dup, 1) := by decide +kernel
theorem dX10_init_53 : decode cX10_init 53 = .ok (.invokespecial 39, 3) := by decide +kernel
theorem dX10_init_56 : decode cX10_init 56 = .ok (.putfield 40, 3) := by decide +kernel
theorem dX10_init_59 : decode cX10_init 59 = .ok (.aload_n 0, 1) := by decide +kernel
theorem dX10_init_60 : decode cX10_init 60 = .ok (.new 44, 3) := by decide +kernel
theorem dX10_init_63 : decode cX10_init 63 = .ok (.dup, 1) := by decide +kernel
theorem dX10_init_64 : decode cX10_init 64 = .ok (.invokespecial 46, 3) := by decide +kernel
theorem dX10_init_67 : decode cX10_init 67 = .ok (.putfield 47, 3) := by decide +kernel
theorem dX10_init_70 : decode cX10_init 70 = .ok (.aload_n 0, 1) := by decide +kernel
theorem dX10_init_71 : decode cX10_init 71 = .ok (.new 51, 3) := by decide +kernel
theorem dX10_init_74 : decode cX10_init 74 = .ok (.dup, 1) := by decide +kernel
theorem dX10_init_75 : decode cX10_init 75 = .ok (.invokespecial 53, 3) := by decide +kernel
theorem dX10_init_78 : decode cX10_init 78 = .ok (.putfield 54, 3) := by decide +kernel
theorem dX10_init_81 : decode cX10_init 81 = .ok (.aload_n 0, 1) := by decide +kernel
theorem dX10_init_82 : decode cX10_init 82 = .ok (.new 51, 3) := by decide +kernel
theorem dX10_init_85 : decode cX10_init 85 = .ok (.dup, 1) := by decide +kernel
theorem dX10_init_86 : decode cX10_init 86 = .ok (.invokespecial 53, 3) := by decide +kernel
theorem dX10_init_89 : decode cX10_init 89 = .ok (.putfield 58, 3) := by decide +kernel
theorem dX10_init_92 : decode cX10_init 92 = .ok (.aload_n 0, 1) := by decide +kernel
theorem dX10_init_93 : decode cX10_init 93 = .ok (.new 51, 3) := by decide +kernel
theorem dX10_init_96 : decode cX10_init 96 = .ok (.dup, 1) := by decide +kernel
theorem dX10_init_97 : decode cX10_init 97 = .ok (.invokespecial 53, 3) := by decide +kernel
theorem dX10_init_100 : decode cX10_init 100 = .ok (.putfield 61, 3) := by decide +kernel
theorem dX10_init_103 : decode cX10_init 103 = .ok (.aload_n 0, 1) := by decide +kernel
theorem dX10_init_104 : decode cX10_init 104 = .ok (.new 51, 3) := by decide +kernel
theorem dX10_init_107 : decode cX10_init 107 = .ok (.dup, 1) := by decide +kernel
theorem dX10_init_108 : decode cX10_init 108 = .ok (.invokespecial 53, 3) := by decide +kernel
theorem dX10_init_111 : decode cX10_init 111 = .ok (.putfield 64, 3) := by decide +kernel
theorem dX10_init_114 : decode cX10_init 114 = .ok (.aload_n 0, 1) := by decide +kernel
theorem dX10_init_115 : decode cX10_init 115 = .ok (.new 67, 3) := by decide +kernel
theorem dX10_init_118 : decode cX10_init 118 = .ok (.dup, 1) := by decide +kernel
theorem dX10_init_119 : decode cX10_init 119 = .ok (.invokespecial 69, 3) := by decide +kernel
theorem dX10_init_122 : decode cX10_init 122 = .ok (.putfield 70, 3) := by decide +kernel
theorem dX10_init_125 : decode cX10_init 125 = .ok (.aload_n 0, 1) := by decide +kernel
theorem dX10_init_126 : decode cX10_init 126 = .ok (.bipush 8, 2) := by decide +kernel
theorem dX10_init_128 : decode cX10_init 128 = .ok (.newarray .long, 2) := by decide +kernel
theorem dX10_init_130 : decode cX10_init 130 = .ok (.putfield 74, 3) := by decide +kernel
theorem dX10_init_133 : decode cX10_init 133 = .ok (.return_, 1) := by decide +kernel
theorem dX10_appendInput_0 : decode cX10_appendInput 0 = .ok (.aload_n 0, 1) := by decide +kernel
theorem dX10_appendInput_1 : decode cX10_appendInput 1 = .ok (.getfield 10, 3) := by decide +kernel
theorem dX10_appendInput_4 : decode cX10_appendInput 4 = .ok (.getfield 78, 3) := by decide +kernel
theorem dX10_appendInput_7 : decode cX10_appendInput 7 = .ok (.astore 6, 2) := by decide +kernel
theorem dX10_appendInput_9 : decode cX10_appendInput 9 = .ok (.aload 6, 2) := by decide +kernel
theorem dX10_appendInput_11 : decode cX10_appendInput 11 = .ok (.getfield 82, 3) := by decide +kernel
theorem dX10_appendInput_14 : decode cX10_appendInput 14 = .ok (.bipush 20, 2) := by decide +kernel
theorem dX10_appendInput_16 : decode cX10_appendInput 16 = .ok (.iadd, 1) := by decide +kernel
theorem dX10_appendInput_17 : decode cX10_appendInput 17 = .ok (.sipush 900, 3) := by decide +kernel
theorem dX10_appendInput_20 : decode cX10_appendInput 20 = .ok (.if_icmp .le 5, 3) := by decide +kernel
theorem dX10_appendInput_23 : decode cX10_appendInput 23 = .ok (.iconst (-1), 1) := by decide +kernel
theorem dX10_appendInput_24 : decode cX10_appendInput 24 = .ok (.ireturn, 1) := by decide +kernel
theorem dX10_appendInput_25 : decode cX10_appendInput 25 = .ok (.aload 6, 2) := by decide +kernel
theorem dX10_appendInput_27 : decode cX10_appendInput 27 = .ok (.iload_n 1, 1) := by decide +kernel
theorem dX10_appendInput_28 : decode cX10_appendInput 28 = .ok (.invokevirtual 88, 3) := by decide +kernel
theorem dX10_appendInput_31 : decode cX10_appendInput 31 = .ok (.aload 6, 2) := by decide +kernel
theorem dX10_appendInput_33 : decode cX10_appendInput 33 = .ok (.iload_n 2, 1) := by decide +kernel
theorem dX10_appendInput_34 : decode cX10_appendInput 34 = .ok (.invokevirtual 88, 3) := by decide +kernel
theorem dX10_appendInput_37 : decode cX10_appendInput 37 = .ok (.aload 6, 2) := by decide +kernel
theorem dX10_appendInput_39 : decode cX10_appendInput 39 = .ok (.iload_n 3, 1) := by decide +kernel
theorem dX10_appendInput_40 : decode cX10_appendInput 40 = .ok (.invokevirtual 88, 3) := by decide +kernel
theorem dX10_appendInput_43 : decode cX10_appendInput 43 = .ok (.aload 6, 2) := by decide +kernel
theorem dX10_appendInput_45 : decode cX10_appendInput 45 = .ok (.iload 4, 2) := by decide +kernel
theorem dX10_appendInput_47 : decode cX10_appendInput 47 = .ok (.invokevirtual 88, 3) := by decide +kernel
theorem dX10_appendInput_50 : decode cX10_appendInput 50 = .ok (.aload 6, 2) := by decide +kernel
theorem dX10_appendInput_52 : decode cX10_appendInput 52 = .ok (.iload 5, 2) := by decide +kernel
theorem dX10_appendInput_54 : decode cX10_appendInput 54 = .ok (.invokevirtual 88, 3) := by decide +kernel
theorem dX10_appendInput_57 : decode cX10_appendInput 57 = .ok (.aload 6, 2) := by decide +kernel
theorem dX10_appendInput_59 : decode cX10_appendInput 59 = .ok (.getfield 82, 3) := by decide +kernel
theorem dX10_appendInput_62 : decode cX10_appendInput 62 = .ok (.ireturn, 1) := by decide +kernel
theorem dX10_truncateInput_0 : decode cX10_truncateInput 0 = .ok (.iload_n 1, 1) := by decide +kernel
theorem dX10_truncateInput_1 : decode cX10_truncateInput 1 = .ok (.ifCond .lt 17, 3) := by decide +kernel
theorem dX10_truncateInput_4 : decode cX10_truncateInput 4 = .ok (.iload_n 1, 1) := by decide +kernel
theorem dX10_truncateInput_5 : decode cX10_truncateInput 5 = .ok (.aload_n 0, 1) := by decide +kernel
theorem dX10_truncateInput_6 : decode cX10_truncateInput 6 = .ok (.getfield 10, 3) := by decide +kernel
theorem dX10_truncateInput_9 : decode cX10_truncateInput 9 = .ok (.getfield 78, 3) := by decide +kernel
theorem dX10_truncateInput_12 : decode cX10_truncateInput 12 = .ok (.getfield 82, 3) := by decide +kernel
theorem dX10_truncateInput_15 : decode cX10_truncateInput 15 = .ok (.if_icmp .le 5, 3) := by decide +kernel
theorem dX10_truncateInput_18 : decode cX10_truncateInput 18 = .ok (.iconst 0, 1) := by decide +kernel
theorem dX10_truncateInput_19 : decode cX10_truncateInput 19 = .ok (.ireturn, 1) := by decide +kernel
theorem dX10_truncateInput_20 : decode cX10_truncateInput 20 = .ok (.aload_n 0, 1) := by decide +kernel
theorem dX10_truncateInput_21 : decode cX10_truncateInput 21 = .ok (.getfield 10, 3) := by decide +kernel
theorem dX10_truncateInput_24 : decode cX10_truncateInput 24 = .ok (.getfield 78, 3) := by decide +kernel
theorem dX10_truncateInput_27 : decode cX10_truncateInput 27 = .ok (.iload_n 1, 1) := by decide +kernel
theorem dX10_truncateInput_28 : decode cX10_truncateInput 28 = .ok (.putfield 82, 3) := by decide +kernel
theorem dX10_truncateInput_31 : decode cX10_truncateInput 31 = .ok (.iconst 1, 1) := by decide +kernel
theorem dX10_truncateInput_32 : decode cX10_truncateInput 32 = .ok (.ireturn, 1) := by decide +kernel
theorem dX10_loadDrive_0 : decode cX10_loadDrive 0 = .ok (.aload_n 0, 1) := by decide +kernel
theorem dX10_loadDrive_1 : decode cX10_loadDrive 1 = .ok (.getfield 10, 3) := by decide +kernel
theorem dX10_loadDrive_4 : decode cX10_loadDrive 4 = .ok (.invokevirtual 92, 3) := by decide +kernel
theorem dX10_loadDrive_7 : decode cX10_loadDrive 7 = .ok (.istore_n 1, 1) := by decide +kernel
theorem dX10_loadDrive_8 : decode cX10_loadDrive 8 = .ok (.aload_n 0, 1) := by decide +kernel
theorem dX10_loadDrive_9 : decode cX10_loadDrive 9 = .ok (.getfield 10, 3) := by decide +kernel
theorem dX10_loadDrive_12 : decode cX10_loadDrive 12 = .ok (.getfield 78, 3) := by decide +kernel
theorem dX10_loadDrive_15 : decode cX10_loadDrive 15 = .ok (.iconst 0, 1) := by decide +kernel
theorem dX10_loadDrive_16 : decode cX10_loadDrive 16 = .ok (.putfield 82, 3) := by decide +kernel
theorem dX10_loadDrive_19 : decode cX10_loadDrive 19 = .ok (.iload_n 1, 1) := by decide +kernel
theorem dX10_loadDrive_20 : decode cX10_loadDrive 20 = .ok (.ifCond .ne 5, 3) := by decide +kernel
theorem dX10_loadDrive_23 : decode cX10_loadDrive 23 = .ok (.iconst (-1), 1) := by decide +kernel
theorem dX10_loadDrive_24 : decode cX10_loadDrive 24 = .ok (.ireturn, 1) := by decide +kernel
theorem dX10_loadDrive_25 : decode cX10_loadDrive 25 = .ok (.aload_n 0, 1) := by decide +kernel
theorem dX10_loadDrive_26 : decode cX10_loadDrive 26 = .ok (.getfield 19, 3) := by decide +kernel
theorem dX10_loadDrive_29 : decode cX10_loadDrive 29 = .ok (.aload_n 0, 1) := by decide +kernel
theorem dX10_loadDrive_30 : decode cX10_loadDrive 30 = .ok (.getfield 10, 3) := by decide +kernel
theorem dX10_loadDrive_33 : decode cX10_loadDrive 33 = .ok (.getfield 96, 3) := by decide +kernel
theorem dX10_loadDrive_36 : decode cX10_loadDrive 36 = .ok (.invokevirtual 97, 3) := by decide +kernel
theorem dX10_loadDrive_39 : decode cX10_loadDrive 39 = .ok (.aload_n 0, 1) := by decide +kernel
theorem dX10_loadDrive_40 : decode cX10_loadDrive 40 = .ok (.getfield 26, 3) := by decide +kernel
theorem dX10_loadDrive_43 : decode cX10_loadDrive 43 = .ok (.aload_n 0, 1) := by decide +kernel
theorem dX10_loadDrive_44 : decode cX10_loadDrive 44 = .ok (.getfield 10, 3) := by decide +kernel
theorem dX10_loadDrive_47 : decode cX10_loadDrive 47 = .ok (.getfield 101, 3) := by decide +kernel
theorem dX10_loadDrive_50 : decode cX10_loadDrive 50 = .ok (.invokevirtual 102, 3) := by decide +kernel
theorem dX10_loadDrive_53 : decode cX10_loadDrive 53 = .ok (.aload_n 0, 1) := by decide +kernel
theorem dX10_loadDrive_54 : decode cX10_loadDrive 54 = .ok (.getfield 33, 3) := by decide +kernel
theorem dX10_loadDrive_57 : decode cX10_loadDrive 57 = .ok (.invokevirtual 105, 3) := by decide +kernel
theorem dX10_loadDrive_60 : decode cX10_loadDrive 60 = .ok (.aload_n 0, 1) := by decide +kernel
theorem dX10_loadDrive_61 : decode cX10_loadDrive 61 = .ok (.getfield 19, 3) := by decide +kernel
theorem dX10_loadDrive_64 : decode cX10_loadDrive 64 = .ok (.getfield 108, 3) := by decide +kernel
theorem dX10_loadDrive_67 : decode cX10_loadDrive 67 = .ok (.ireturn, 1) := by decide +kernel
theorem dX10_errorCode_0 : decode cX10_errorCode 0 = .ok (.aload_n 0, 1) := by decide +kernel
theorem dX10_errorCode_1 : decode cX10_errorCode 1 = .ok (.getfield 10, 3) := by decide +kernel
theorem dX10_errorCode_4 : decode cX10_errorCode 4 = .ok (.getfield 111, 3) := by decide +kernel
theorem dX10_errorCode_7 : decode cX10_errorCode 7 = .ok (.ireturn, 1) := by decide +kernel
theorem dX10_errorOffset_0 : decode cX10_errorOffset 0 = .ok (.aload_n 0, 1) := by decide +kernel
theorem dX10_errorOffset_1 : decode cX10_errorOffset 1 = .ok (.getfield 10, 3) := by decide +kernel
theorem dX10_errorOffset_4 : decode cX10_errorOffset 4 = .ok (.getfield 114, 3) := by decide +kernel
theorem dX10_errorOffset_7 : decode cX10_errorOffset 7 = .ok (.ireturn, 1) := by decide +kernel
theorem dX10_count_0 : decode cX10_count 0 = .ok (.iload_n 1, 1) := by decide +kernel
theorem dX10_count_1 : decode cX10_count 1 = .ok (.iconst 0, 1) := by decide +kernel
theorem dX10_count_2 : decode cX10_count 2 = .ok (.bipush 6, 2) := by decide +kernel
theorem dX10_count_4 : decode cX10_count 4 = .ok (.invokestatic 117, 3) := by decide +kernel
theorem dX10_count_7 : decode cX10_count 7 = .ok (.iload_n 1, 1) := by decide +kernel
theorem dX10_count_8 : decode cX10_count 8 = .ok (.tableswitch 88 0 5 #[40, 48, 56, 64, 72, 80], 40) := by decide +kernel
theorem dX10_count_48 : decode cX10_count 48 = .ok (.aload_n 0, 1) := by decide +kernel
theorem dX10_count_49 : decode cX10_count 49 = .ok (.getfield 19, 3) := by decide +kernel
theorem dX10_count_52 : decode cX10_count 52 = .ok (.getfield 108, 3) := by decide +kernel
theorem dX10_count_55 : decode cX10_count 55 = .ok (.ireturn, 1) := by decide +kernel
theorem dX10_count_56 : decode cX10_count 56 = .ok (.aload_n 0, 1) := by decide +kernel
theorem dX10_count_57 : decode cX10_count 57 = .ok (.getfield 26, 3) := by decide +kernel
theorem dX10_count_60 : decode cX10_count 60 = .ok (.getfield 121, 3) := by decide +kernel
theorem dX10_count_63 : decode cX10_count 63 = .ok (.ireturn, 1) := by decide +kernel
theorem dX10_count_64 : decode cX10_count 64 = .ok (.aload_n 0, 1) := by decide +kernel
theorem dX10_count_65 : decode cX10_count 65 = .ok (.getfield 19, 3) := by decide +kernel
theorem dX10_count_68 : decode cX10_count 68 = .ok (.getfield 124, 3) := by decide +kernel
theorem dX10_count_71 : decode cX10_count 71 = .ok (.ireturn, 1) := by decide +kernel
theorem dX10_count_72 : decode cX10_count 72 = .ok (.aload_n 0, 1) := by decide +kernel
theorem dX10_count_73 : decode cX10_count 73 = .ok (.getfield 26, 3) := by decide +kernel
theorem dX10_count_76 : decode cX10_count 76 = .ok (.getfield 127, 3) := by decide +kernel
theorem dX10_count_79 : decode cX10_count 79 = .ok (.ireturn, 1) := by decide +kernel
theorem dX10_count_80 : decode cX10_count 80 = .ok (.aload_n 0, 1) := by decide +kernel
theorem dX10_count_81 : decode cX10_count 81 = .ok (.getfield 26, 3) := by decide +kernel
theorem dX10_count_84 : decode cX10_count 84 = .ok (.getfield 130, 3) := by decide +kernel
theorem dX10_count_87 : decode cX10_count 87 = .ok (.ireturn, 1) := by decide +kernel
theorem dX10_count_88 : decode cX10_count 88 = .ok (.aload_n 0, 1) := by decide +kernel
theorem dX10_count_89 : decode cX10_count 89 = .ok (.getfield 33, 3) := by decide +kernel
theorem dX10_count_92 : decode cX10_count 92 = .ok (.getfield 133, 3) := by decide +kernel
theorem dX10_count_95 : decode cX10_count 95 = .ok (.ireturn, 1) := by decide +kernel
theorem dX10_count_96 : decode cX10_count 96 = .ok (.aload_n 0, 1) := by decide +kernel
theorem dX10_count_97 : decode cX10_count 97 = .ok (.invokevirtual 136, 3) := by decide +kernel
theorem dX10_count_100 : decode cX10_count 100 = .ok (.ireturn, 1) := by decide +kernel
theorem dX10_body_0 : decode cX10_body 0 = .ok (.aload_n 0, 1) := by decide +kernel
theorem dX10_body_1 : decode cX10_body 1 = .ok (.iload_n 1, 1) := by decide +kernel
theorem dX10_body_2 : decode cX10_body 2 = .ok (.invokevirtual 140, 3) := by decide +kernel
theorem dX10_body_5 : decode cX10_body 5 = .ok (.iload_n 2, 1) := by decide +kernel
theorem dX10_body_6 : decode cX10_body 6 = .ok (.iconst 0, 1) := by decide +kernel
theorem dX10_body_7 : decode cX10_body 7 = .ok (.iconst 5, 1) := by decide +kernel
theorem dX10_body_8 : decode cX10_body 8 = .ok (.invokestatic 117, 3) := by decide +kernel
theorem dX10_body_11 : decode cX10_body 11 = .ok (.iload_n 2, 1) := by decide +kernel
theorem dX10_body_12 : decode cX10_body 12 = .ok (.tableswitch 100 0 4 #[36, 46, 64, 74, 87], 36) := by decide +kernel
theorem dX10_body_48 : decode cX10_body 48 = .ok (.aload_n 0, 1) := by decide +kernel
theorem dX10_body_49 : decode cX10_body 49 = .ok (.getfield 19, 3) := by decide +kernel
theorem dX10_body_52 : decode cX10_body 52 = .ok (.getfield 143, 3) := by decide +kernel
theorem dX10_body_55 : decode cX10_body 55 = .ok (.iload_n 1, 1) := by decide +kernel
theorem dX10_body_56 : decode cX10_body 56 = .ok (.iaload, 1) := by decide +kernel
theorem dX10_body_57 : decode cX10_body 57 = .ok (.ireturn, 1) := by decide +kernel
theorem dX10_body_58 : decode cX10_body 58 = .ok (.aload_n 0, 1) := by decide +kernel
theorem dX10_body_59 : decode cX10_body 59 = .ok (.getfield 19, 3) := by decide +kernel
theorem dX10_body_62 : decode cX10_body 62 = .ok (.getfield 147, 3) := by decide +kernel
theorem dX10_body_65 : decode cX10_body 65 = .ok (.iload_n 1, 1) := by decide +kernel
theorem dX10_body_66 : decode cX10_body 66 = .ok (.baload, 1) := by decide +kernel
theorem dX10_body_67 : decode cX10_body 67 = .ok (.ifCond .eq 7, 3) := by decide +kernel
theorem dX10_body_70 : decode cX10_body 70 = .ok (.iconst 1, 1) := by decide +kernel
theorem dX10_body_71 : decode cX10_body 71 = .ok (.goto 4, 3) := by decide +kernel
theorem dX10_body_74 : decode cX10_body 74 = .ok (.iconst 0, 1) := by decide +kernel
theorem dX10_body_75 : decode cX10_body 75 = .ok (.ireturn, 1) := by decide +kernel
theorem dX10_body_76 : decode cX10_body 76 = .ok (.aload_n 0, 1) := by decide +kernel
theorem dX10_body_77 : decode cX10_body 77 = .ok (.getfield 19, 3) := by decide +kernel
theorem dX10_body_80 : decode cX10_body 80 = .ok (.getfield 151, 3) := by decide +kernel
theorem dX10_body_83 : decode cX10_body 83 = .ok (.iload_n 1, 1) := by decide +kernel
theorem dX10_body_84 : decode cX10_body 84 = .ok (.iaload, 1) := by decide +kernel
theorem dX10_body_85 : decode cX10_body 85 = .ok (.ireturn, 1) := by decide +kernel
theorem dX10_body_86 : decode cX10_body 86 = .ok (.aload_n 0, 1) := by decide +kernel
theorem dX10_body_87 : decode cX10_body 87 = .ok (.getfield 26, 3) := by decide +kernel
theorem dX10_body_90 : decode cX10_body 90 = .ok (.getfield 154, 3) := by decide +kernel
theorem dX10_body_93 : decode cX10_body 93 = .ok (.iload_n 1, 1) := by decide +kernel
theorem dX10_body_94 : decode cX10_body 94 = .ok (.aaload, 1) := by decide +kernel
theorem dX10_body_95 : decode cX10_body 95 = .ok (.getfield 158, 3) := by decide +kernel
theorem dX10_body_98 : decode cX10_body 98 = .ok (.ireturn, 1) := by decide +kernel
theorem dX10_body_99 : decode cX10_body 99 = .ok (.aload_n 0, 1) := by decide +kernel
theorem dX10_body_100 : decode cX10_body 100 = .ok (.getfield 26, 3) := by decide +kernel
theorem dX10_body_103 : decode cX10_body 103 = .ok (.getfield 154, 3) := by decide +kernel
theorem dX10_body_106 : decode cX10_body 106 = .ok (.iload_n 1, 1) := by decide +kernel
theorem dX10_body_107 : decode cX10_body 107 = .ok (.aaload, 1) := by decide +kernel
theorem dX10_body_108 : decode cX10_body 108 = .ok (.invokevirtual 159, 3) := by decide +kernel
theorem dX10_body_111 : decode cX10_body 111 = .ok (.ireturn, 1) := by decide +kernel
theorem dX10_body_112 : decode cX10_body 112 = .ok (.aload_n 0, 1) := by decide +kernel
theorem dX10_body_113 : decode cX10_body 113 = .ok (.getfield 26, 3) := by decide +kernel
theorem dX10_body_116 : decode cX10_body 116 = .ok (.getfield 154, 3) := by decide +kernel
theorem dX10_body_119 : decode cX10_body 119 = .ok (.iload_n 1, 1) := by decide +kernel
theorem dX10_body_120 : decode cX10_body 120 = .ok (.aaload, 1) := by decide +kernel
theorem dX10_body_121 : decode cX10_body 121 = .ok (.invokevirtual 162, 3) := by decide +kernel
theorem dX10_body_124 : decode cX10_body 124 = .ok (.ireturn, 1) := by decide +kernel
theorem dX10_part_0 : decode cX10_part 0 = .ok (.aload_n 0, 1) := by decide +kernel
theorem dX10_part_1 : decode cX10_part 1 = .ok (.iload_n 1, 1) := by decide +kernel
theorem dX10_part_2 : decode cX10_part 2 = .ok (.invokevirtual 140, 3) := by decide +kernel
theorem dX10_part_5 : decode cX10_part 5 = .ok (.aload_n 0, 1) := by decide +kernel
theorem dX10_part_6 : decode cX10_part 6 = .ok (.getfield 26, 3) := by decide +kernel
theorem dX10_part_9 : decode cX10_part 9 = .ok (.getfield 154, 3) := by decide +kernel
theorem dX10_part_12 : decode cX10_part 12 = .ok (.iload_n 1, 1) := by decide +kernel
theorem dX10_part_13 : decode cX10_part 13 = .ok (.aaload, 1) := by decide +kernel
theorem dX10_part_14 : decode cX10_part 14 = .ok (.astore 4, 2) := by decide +kernel
theorem dX10_part_16 : decode cX10_part 16 = .ok (.iload_n 2, 1) := by decide +kernel
theorem dX10_part_17 : decode cX10_part 17 = .ok (.ifCond .lt 12, 3) := by decide +kernel
theorem dX10_part_20 : decode cX10_part 20 = .ok (.iload_n 2, 1) := by decide +kernel
theorem dX10_part_21 : decode cX10_part 21 = .ok (.aload 4, 2) := by decide +kernel
theorem dX10_part_23 : decode cX10_part 23 = .ok (.getfield 158, 3) := by decide +kernel
theorem dX10_part_26 : decode cX10_part 26 = .ok (.if_icmp .lt 13, 3) := by decide +kernel
theorem dX10_part_29 : decode cX10_part 29 = .ok (.new 165, 3) := by decide +kernel
theorem dX10_part_32 : decode cX10_part 32 = .ok (.dup, 1) := by decide +kernel
theorem dX10_part_33 : decode cX10_part 33 = .ok (.ldc 167, 2) := by decide +kernel
theorem dX10_part_35 : decode cX10_part 35 = .ok (.invokespecial 169, 3) := by decide +kernel
theorem dX10_part_38 : decode cX10_part 38 = .ok (.athrow, 1) := by decide +kernel
theorem dX10_part_39 : decode cX10_part 39 = .ok (.iload_n 3, 1) := by decide +kernel
theorem dX10_part_40 : decode cX10_part 40 = .ok (.iconst 0, 1) := by decide +kernel
theorem dX10_part_41 : decode cX10_part 41 = .ok (.iconst 2, 1) := by decide +kernel
theorem dX10_part_42 : decode cX10_part 42 = .ok (.invokestatic 117, 3) := by decide +kernel
theorem dX10_part_45 : decode cX10_part 45 = .ok (.aload 4, 2) := by decide +kernel
theorem dX10_part_47 : decode cX10_part 47 = .ok (.iload_n 2, 1) := by decide +kernel
theorem dX10_part_48 : decode cX10_part 48 = .ok (.iload_n 3, 1) := by decide +kernel
theorem dX10_part_49 : decode cX10_part 49 = .ok (.invokevirtual 172, 3) := by decide +kernel
theorem dX10_part_52 : decode cX10_part 52 = .ok (.ireturn, 1) := by decide +kernel
theorem dX10_stock_0 : decode cX10_stock 0 = .ok (.iload_n 1, 1) := by decide +kernel
theorem dX10_stock_1 : decode cX10_stock 1 = .ok (.ifCond .lt 14, 3) := by decide +kernel
theorem dX10_stock_4 : decode cX10_stock 4 = .ok (.iload_n 1, 1) := by decide +kernel
theorem dX10_stock_5 : decode cX10_stock 5 = .ok (.aload_n 0, 1) := by decide +kernel
theorem dX10_stock_6 : decode cX10_stock 6 = .ok (.getfield 26, 3) := by decide +kernel
theorem dX10_stock_9 : decode cX10_stock 9 = .ok (.getfield 121, 3) := by decide +kernel
theorem dX10_stock_12 : decode cX10_stock 12 = .ok (.if_icmp .lt 13, 3) := by decide +kernel
theorem dX10_stock_15 : decode cX10_stock 15 = .ok (.new 165, 3) := by decide +kernel
theorem dX10_stock_18 : decode cX10_stock 18 = .ok (.dup, 1) := by decide +kernel
theorem dX10_stock_19 : decode cX10_stock 19 = .ok (.ldc 176, 2) := by decide +kernel
theorem dX10_stock_21 : decode cX10_stock 21 = .ok (.invokespecial 169, 3) := by decide +kernel
theorem dX10_stock_24 : decode cX10_stock 24 = .ok (.athrow, 1) := by decide +kernel
theorem dX10_stock_25 : decode cX10_stock 25 = .ok (.aload_n 0, 1) := by decide +kernel
theorem dX10_stock_26 : decode cX10_stock 26 = .ok (.getfield 26, 3) := by decide +kernel
theorem dX10_stock_29 : decode cX10_stock 29 = .ok (.getfield 178, 3) := by decide +kernel
theorem dX10_stock_32 : decode cX10_stock 32 = .ok (.iload_n 1, 1) := by decide +kernel
theorem dX10_stock_33 : decode cX10_stock 33 = .ok (.iaload, 1) := by decide +kernel
theorem dX10_stock_34 : decode cX10_stock 34 = .ok (.ireturn, 1) := by decide +kernel
theorem dX10_numerator_0 : decode cX10_numerator 0 = .ok (.aload_n 0, 1) := by decide +kernel
theorem dX10_numerator_1 : decode cX10_numerator 1 = .ok (.iload_n 1, 1) := by decide +kernel
theorem dX10_numerator_2 : decode cX10_numerator 2 = .ok (.invokevirtual 140, 3) := by decide +kernel
theorem dX10_numerator_5 : decode cX10_numerator 5 = .ok (.aload_n 0, 1) := by decide +kernel
theorem dX10_numerator_6 : decode cX10_numerator 6 = .ok (.iload_n 1, 1) := by decide +kernel
theorem dX10_numerator_7 : decode cX10_numerator 7 = .ok (.aload_n 0, 1) := by decide +kernel
theorem dX10_numerator_8 : decode cX10_numerator 8 = .ok (.getfield 54, 3) := by decide +kernel
theorem dX10_numerator_11 : decode cX10_numerator 11 = .ok (.invokevirtual 181, 3) := by decide +kernel
theorem dX10_numerator_14 : decode cX10_numerator 14 = .ok (.getfield 185, 3) := by decide +kernel
theorem dX10_numerator_17 : decode cX10_numerator 17 = .ok (.lreturn, 1) := by decide +kernel
theorem dX10_denominator_0 : decode cX10_denominator 0 = .ok (.aload_n 0, 1) := by decide +kernel
theorem dX10_denominator_1 : decode cX10_denominator 1 = .ok (.iload_n 1, 1) := by decide +kernel
theorem dX10_denominator_2 : decode cX10_denominator 2 = .ok (.invokevirtual 140, 3) := by decide +kernel
theorem dX10_denominator_5 : decode cX10_denominator 5 = .ok (.aload_n 0, 1) := by decide +kernel
theorem dX10_denominator_6 : decode cX10_denominator 6 = .ok (.iload_n 1, 1) := by decide +kernel
theorem dX10_denominator_7 : decode cX10_denominator 7 = .ok (.aload_n 0, 1) := by decide +kernel
theorem dX10_denominator_8 : decode cX10_denominator 8 = .ok (.getfield 54, 3) := by decide +kernel
theorem dX10_denominator_11 : decode cX10_denominator 11 = .ok (.invokevirtual 181, 3) := by decide +kernel
theorem dX10_denominator_14 : decode cX10_denominator 14 = .ok (.getfield 189, 3) := by decide +kernel
theorem dX10_denominator_17 : decode cX10_denominator 17 = .ok (.lreturn, 1) := by decide +kernel
theorem dX10_daysOf_0 : decode cX10_daysOf 0 = .ok (.aload_n 0, 1) := by decide +kernel
theorem dX10_daysOf_1 : decode cX10_daysOf 1 = .ok (.iload_n 1, 1) := by decide +kernel
theorem dX10_daysOf_2 : decode cX10_daysOf 2 = .ok (.invokevirtual 192, 3) := by decide +kernel
theorem dX10_daysOf_5 : decode cX10_daysOf 5 = .ok (.aload_n 0, 1) := by decide +kernel
theorem dX10_daysOf_6 : decode cX10_daysOf 6 = .ok (.getfield 19, 3) := by decide +kernel
theorem dX10_daysOf_9 : decode cX10_daysOf 9 = .ok (.iload_n 1, 1) := by decide +kernel
theorem dX10_daysOf_10 : decode cX10_daysOf 10 = .ok (.invokevirtual 195, 3) := by decide +kernel
theorem dX10_daysOf_13 : decode cX10_daysOf 13 = .ok (.aload_n 0, 1) := by decide +kernel
theorem dX10_daysOf_14 : decode cX10_daysOf 14 = .ok (.getfield 19, 3) := by decide +kernel
theorem dX10_daysOf_17 : decode cX10_daysOf 17 = .ok (.iload_n 1, 1) := by decide +kernel
theorem dX10_daysOf_18 : decode cX10_daysOf 18 = .ok (.iconst 1, 1) := by decide +kernel
theorem dX10_daysOf_19 : decode cX10_daysOf 19 = .ok (.isub, 1) := by decide +kernel
theorem dX10_daysOf_20 : decode cX10_daysOf 20 = .ok (.invokevirtual 195, 3) := by decide +kernel
theorem dX10_daysOf_23 : decode cX10_daysOf 23 = .ok (.isub, 1) := by decide +kernel
theorem dX10_daysOf_24 : decode cX10_daysOf 24 = .ok (.ireturn, 1) := by decide +kernel
theorem dX10_endOf_0 : decode cX10_endOf 0 = .ok (.aload_n 0, 1) := by decide +kernel
theorem dX10_endOf_1 : decode cX10_endOf 1 = .ok (.iload_n 1, 1) := by decide +kernel
theorem dX10_endOf_2 : decode cX10_endOf 2 = .ok (.invokevirtual 192, 3) := by decide +kernel
theorem dX10_endOf_5 : decode cX10_endOf 5 = .ok (.aload_n 0, 1) := by decide +kernel
theorem dX10_endOf_6 : decode cX10_endOf 6 = .ok (.getfield 19, 3) := by decide +kernel
theorem dX10_endOf_9 : decode cX10_endOf 9 = .ok (.iload_n 1, 1) := by decide +kernel
theorem dX10_endOf_10 : decode cX10_endOf 10 = .ok (.invokevirtual 195, 3) := by decide +kernel
theorem dX10_endOf_13 : decode cX10_endOf 13 = .ok (.ireturn, 1) := by decide +kernel
theorem dX10_yearOf_0 : decode cX10_yearOf 0 = .ok (.iload_n 1, 1) := by decide +kernel
theorem dX10_yearOf_1 : decode cX10_yearOf 1 = .ok (.iconst 0, 1) := by decide +kernel
theorem dX10_yearOf_2 : decode cX10_yearOf 2 = .ok (.ldc 199, 2) := by decide +kernel
theorem dX10_yearOf_4 : decode cX10_yearOf 4 = .ok (.invokestatic 117, 3) := by decide +kernel
theorem dX10_yearOf_7 : decode cX10_yearOf 7 = .ok (.aload_n 0, 1) := by decide +kernel
theorem dX10_yearOf_8 : decode cX10_yearOf 8 = .ok (.getfield 19, 3) := by decide +kernel
theorem dX10_yearOf_11 : decode cX10_yearOf 11 = .ok (.iload_n 1, 1) := by decide +kernel
theorem dX10_yearOf_12 : decode cX10_yearOf 12 = .ok (.invokevirtual 200, 3) := by decide +kernel
theorem dX10_yearOf_15 : decode cX10_yearOf 15 = .ok (.ireturn, 1) := by decide +kernel
theorem dX10_leapYears_0 : decode cX10_leapYears 0 = .ok (.aload_n 0, 1) := by decide +kernel
theorem dX10_leapYears_1 : decode cX10_leapYears 1 = .ok (.iload_n 1, 1) := by decide +kernel
theorem dX10_leapYears_2 : decode cX10_leapYears 2 = .ok (.iload_n 2, 1) := by decide +kernel
theorem dX10_leapYears_3 : decode cX10_leapYears 3 = .ok (.invokevirtual 203, 3) := by decide +kernel
theorem dX10_leapYears_6 : decode cX10_leapYears 6 = .ok (.iload_n 2, 1) := by decide +kernel
theorem dX10_leapYears_7 : decode cX10_leapYears 7 = .ok (.invokestatic 207, 3) := by decide +kernel
theorem dX10_leapYears_10 : decode cX10_leapYears 10 = .ok (.iload_n 1, 1) := by decide +kernel
theorem dX10_leapYears_11 : decode cX10_leapYears 11 = .ok (.iconst 1, 1) := by decide +kernel
theorem dX10_leapYears_12 : decode cX10_leapYears 12 = .ok (.isub, 1) := by decide +kernel
theorem dX10_leapYears_13 : decode cX10_leapYears 13 = .ok (.invokestatic 207, 3) := by decide +kernel
theorem dX10_leapYears_16 : decode cX10_leapYears 16 = .ok (.isub, 1) := by decide +kernel
theorem dX10_leapYears_17 : decode cX10_leapYears 17 = .ok (.ireturn, 1) := by decide +kernel
theorem dX10_errorBy_0 : decode cX10_errorBy 0 = .ok (.aload_n 0, 1) := by decide +kernel
theorem dX10_errorBy_1 : decode cX10_errorBy 1 = .ok (.iload_n 1, 1) := by decide +kernel
theorem dX10_errorBy_2 : decode cX10_errorBy 2 = .ok (.invokevirtual 140, 3) := by decide +kernel
theorem dX10_errorBy_5 : decode cX10_errorBy 5 = .ok (.iload_n 2, 1) := by decide +kernel
theorem dX10_errorBy_6 : decode cX10_errorBy 6 = .ok (.iconst 0, 1) := by decide +kernel
theorem dX10_errorBy_7 : decode cX10_errorBy 7 = .ok (.ldc 199, 2) := by decide +kernel
theorem dX10_errorBy_9 : decode cX10_errorBy 9 = .ok (.invokestatic 117, 3) := by decide +kernel
theorem dX10_errorBy_12 : decode cX10_errorBy 12 = .ok (.aload_n 0, 1) := by decide +kernel
theorem dX10_errorBy_13 : decode cX10_errorBy 13 = .ok (.iload_n 1, 1) := by decide +kernel
theorem dX10_errorBy_14 : decode cX10_errorBy 14 = .ok (.invokevirtual 210, 3) := by decide +kernel
theorem dX10_errorBy_17 : decode cX10_errorBy 17 = .ok (.iload_n 2, 1) := by decide +kernel
theorem dX10_errorBy_18 : decode cX10_errorBy 18 = .ok (.invokevirtual 214, 3) := by decide +kernel
theorem dX10_errorBy_21 : decode cX10_errorBy 21 = .ok (.lreturn, 1) := by decide +kernel
theorem dX10_error_0 : decode cX10_error 0 = .ok (.aload_n 0, 1) := by decide +kernel
theorem dX10_error_1 : decode cX10_error 1 = .ok (.iload_n 1, 1) := by decide +kernel
theorem dX10_error_2 : decode cX10_error 2 = .ok (.invokevirtual 140, 3) := by decide +kernel
theorem dX10_error_5 : decode cX10_error 5 = .ok (.aload_n 0, 1) := by decide +kernel
theorem dX10_error_6 : decode cX10_error 6 = .ok (.iload_n 2, 1) := by decide +kernel
theorem dX10_error_7 : decode cX10_error 7 = .ok (.invokevirtual 192, 3) := by decide +kernel
theorem dX10_error_10 : decode cX10_error 10 = .ok (.aload_n 0, 1) := by decide +kernel
theorem dX10_error_11 : decode cX10_error 11 = .ok (.iload_n 1, 1) := by decide +kernel
theorem dX10_error_12 : decode cX10_error 12 = .ok (.iload_n 2, 1) := by decide +kernel
theorem dX10_error_13 : decode cX10_error 13 = .ok (.invokevirtual 218, 3) := by decide +kernel
theorem dX10_error_16 : decode cX10_error 16 = .ok (.lreturn, 1) := by decide +kernel
theorem dX10_angle_0 : decode cX10_angle 0 = .ok (.aload_n 0, 1) := by decide +kernel
theorem dX10_angle_1 : decode cX10_angle 1 = .ok (.iload_n 1, 1) := by decide +kernel
theorem dX10_angle_2 : decode cX10_angle 2 = .ok (.invokevirtual 140, 3) := by decide +kernel
theorem dX10_angle_5 : decode cX10_angle 5 = .ok (.iload_n 2, 1) := by decide +kernel
theorem dX10_angle_6 : decode cX10_angle 6 = .ok (.iconst 0, 1) := by decide +kernel
theorem dX10_angle_7 : decode cX10_angle 7 = .ok (.ldc 199, 2) := by decide +kernel
theorem dX10_angle_9 : decode cX10_angle 9 = .ok (.invokestatic 117, 3) := by decide +kernel
theorem dX10_angle_12 : decode cX10_angle 12 = .ok (.aload_n 0, 1) := by decide +kernel
theorem dX10_angle_13 : decode cX10_angle 13 = .ok (.iload_n 1, 1) := by decide +kernel
theorem dX10_angle_14 : decode cX10_angle 14 = .ok (.aload_n 0, 1) := by decide +kernel
theorem dX10_angle_15 : decode cX10_angle 15 = .ok (.getfield 54, 3) := by decide +kernel
theorem dX10_angle_18 : decode cX10_angle 18 = .ok (.invokevirtual 181, 3) := by decide +kernel
theorem dX10_angle_21 : decode cX10_angle 21 = .ok (.iload_n 2, 1) := by decide +kernel
theorem dX10_angle_22 : decode cX10_angle 22 = .ok (.invokevirtual 222, 3) := by decide +kernel
theorem dX10_angle_25 : decode cX10_angle 25 = .ok (.ireturn, 1) := by decide +kernel
theorem dX10_trueAngle_0 : decode cX10_trueAngle 0 = .ok (.aload_n 0, 1) := by decide +kernel
theorem dX10_trueAngle_1 : decode cX10_trueAngle 1 = .ok (.iload_n 1, 1) := by decide +kernel
theorem dX10_trueAngle_2 : decode cX10_trueAngle 2 = .ok (.invokevirtual 140, 3) := by decide +kernel
theorem dX10_trueAngle_5 : decode cX10_trueAngle 5 = .ok (.iload_n 2, 1) := by decide +kernel
theorem dX10_trueAngle_6 : decode cX10_trueAngle 6 = .ok (.iconst 0, 1) := by decide +kernel
theorem dX10_trueAngle_7 : decode cX10_trueAngle 7 = .ok (.ldc 199, 2) := by decide +kernel
theorem dX10_trueAngle_9 : decode cX10_trueAngle 9 = .ok (.invokestatic 117, 3) := by decide +kernel
theorem dX10_trueAngle_12 : decode cX10_trueAngle 12 = .ok (.aload_n 0, 1) := by decide +kernel
theorem dX10_trueAngle_13 : decode cX10_trueAngle 13 = .ok (.iload_n 1, 1) := by decide +kernel
theorem dX10_trueAngle_14 : decode cX10_trueAngle 14 = .ok (.aload_n 0, 1) := by decide +kernel
theorem dX10_trueAngle_15 : decode cX10_trueAngle 15 = .ok (.getfield 54, 3) := by decide +kernel
theorem dX10_trueAngle_18 : decode cX10_trueAngle 18 = .ok (.invokevirtual 225, 3) := by decide +kernel
theorem dX10_trueAngle_21 : decode cX10_trueAngle 21 = .ok (.iload_n 2, 1) := by decide +kernel
theorem dX10_trueAngle_22 : decode cX10_trueAngle 22 = .ok (.invokevirtual 222, 3) := by decide +kernel
theorem dX10_trueAngle_25 : decode cX10_trueAngle 25 = .ok (.ireturn, 1) := by decide +kernel
theorem dX10_worst_0 : decode cX10_worst 0 = .ok (.aload_n 0, 1) := by decide +kernel
theorem dX10_worst_1 : decode cX10_worst 1 = .ok (.iload_n 1, 1) := by decide +kernel
theorem dX10_worst_2 : decode cX10_worst 2 = .ok (.invokevirtual 192, 3) := by decide +kernel
theorem dX10_worst_5 : decode cX10_worst 5 = .ok (.iconst (-1), 1) := by decide +kernel
theorem dX10_worst_6 : decode cX10_worst 6 = .ok (.istore_n 2, 1) := by decide +kernel
theorem dX10_worst_7 : decode cX10_worst 7 = .ok (.ldc2_w 228, 3) := by decide +kernel
theorem dX10_worst_10 : decode cX10_worst 10 = .ok (.lstore_n 3, 1) := by decide +kernel
theorem dX10_worst_11 : decode cX10_worst 11 = .ok (.iconst 0, 1) := by decide +kernel
theorem dX10_worst_12 : decode cX10_worst 12 = .ok (.istore 5, 2) := by decide +kernel
theorem dX10_worst_14 : decode cX10_worst 14 = .ok (.iload 5, 2) := by decide +kernel
theorem dX10_worst_16 : decode cX10_worst 16 = .ok (.aload_n 0, 1) := by decide +kernel
theorem dX10_worst_17 : decode cX10_worst 17 = .ok (.getfield 19, 3) := by decide +kernel
theorem dX10_worst_20 : decode cX10_worst 20 = .ok (.getfield 108, 3) := by decide +kernel
theorem dX10_worst_23 : decode cX10_worst 23 = .ok (.if_icmp .ge 31, 3) := by decide +kernel
theorem dX10_worst_26 : decode cX10_worst 26 = .ok (.aload_n 0, 1) := by decide +kernel
theorem dX10_worst_27 : decode cX10_worst 27 = .ok (.iload 5, 2) := by decide +kernel
theorem dX10_worst_29 : decode cX10_worst 29 = .ok (.iload_n 1, 1) := by decide +kernel
theorem dX10_worst_30 : decode cX10_worst 30 = .ok (.invokevirtual 230, 3) := by decide +kernel
theorem dX10_worst_33 : decode cX10_worst 33 = .ok (.lstore 6, 2) := by decide +kernel
theorem dX10_worst_35 : decode cX10_worst 35 = .ok (.lload 6, 2) := by decide +kernel
theorem dX10_worst_37 : decode cX10_worst 37 = .ok (.lload_n 3, 1) := by decide +kernel
theorem dX10_worst_38 : decode cX10_worst 38 = .ok (.lcmp, 1) := by decide +kernel
theorem dX10_worst_39 : decode cX10_worst 39 = .ok (.ifCond .le 9, 3) := by decide +kernel
theorem dX10_worst_42 : decode cX10_worst 42 = .ok (.lload 6, 2) := by decide +kernel
theorem dX10_worst_44 : decode cX10_worst 44 = .ok (.lstore_n 3, 1) := by decide +kernel
theorem dX10_worst_45 : decode cX10_worst 45 = .ok (.iload 5, 2) := by decide +kernel
theorem dX10_worst_47 : decode cX10_worst 47 = .ok (.istore_n 2, 1) := by decide +kernel
theorem dX10_worst_48 : decode cX10_worst 48 = .ok (.iinc 5 1, 3) := by decide +kernel
theorem dX10_worst_51 : decode cX10_worst 51 = .ok (.goto (-37), 3) := by decide +kernel
theorem dX10_worst_54 : decode cX10_worst 54 = .ok (.iload_n 2, 1) := by decide +kernel
theorem dX10_worst_55 : decode cX10_worst 55 = .ok (.ireturn, 1) := by decide +kernel
theorem dX10_ranked_0 : decode cX10_ranked 0 = .ok (.aload_n 0, 1) := by decide +kernel
theorem dX10_ranked_1 : decode cX10_ranked 1 = .ok (.iload_n 1, 1) := by decide +kernel
theorem dX10_ranked_2 : decode cX10_ranked 2 = .ok (.invokevirtual 192, 3) := by decide +kernel
theorem dX10_ranked_5 : decode cX10_ranked 5 = .ok (.iconst 0, 1) := by decide +kernel
theorem dX10_ranked_6 : decode cX10_ranked 6 = .ok (.istore_n 3, 1) := by decide +kernel
theorem dX10_ranked_7 : decode cX10_ranked 7 = .ok (.iload_n 3, 1) := by decide +kernel
theorem dX10_ranked_8 : decode cX10_ranked 8 = .ok (.aload_n 0, 1) := by decide +kernel
theorem dX10_ranked_9 : decode cX10_ranked 9 = .ok (.getfield 19, 3) := by decide +kernel
theorem dX10_ranked_12 : decode cX10_ranked 12 = .ok (.getfield 108, 3) := by decide +kernel
theorem dX10_ranked_15 : decode cX10_ranked 15 = .ok (.if_icmp .ge 21, 3) := by decide +kernel
theorem dX10_ranked_18 : decode cX10_ranked 18 = .ok (.aload_n 0, 1) := by decide +kernel
theorem dX10_ranked_19 : decode cX10_ranked 19 = .ok (.getfield 74, 3) := by decide +kernel
theorem dX10_ranked_22 : decode cX10_ranked 22 = .ok (.iload_n 3, 1) := by decide +kernel
theorem dX10_ranked_23 : decode cX10_ranked 23 = .ok (.aload_n 0, 1) := by decide +kernel
theorem dX10_ranked_24 : decode cX10_ranked 24 = .ok (.iload_n 3, 1) := by decide +kernel
theorem dX10_ranked_25 : decode cX10_ranked 25 = .ok (.iload_n 1, 1) := by decide +kernel
theorem dX10_ranked_26 : decode cX10_ranked 26 = .ok (.invokevirtual 230, 3) := by decide +kernel
theorem dX10_ranked_29 : decode cX10_ranked 29 = .ok (.lastore, 1) := by decide +kernel
theorem dX10_ranked_30 : decode cX10_ranked 30 = .ok (.iinc 3 1, 3) := by decide +kernel
theorem dX10_ranked_33 : decode cX10_ranked 33 = .ok (.goto (-26), 3) := by decide +kernel
theorem dX10_ranked_36 : decode cX10_ranked 36 = .ok (.iconst 0, 1) := by decide +kernel
theorem dX10_ranked_37 : decode cX10_ranked 37 = .ok (.istore_n 3, 1) := by decide +kernel
theorem dX10_ranked_38 : decode cX10_ranked 38 = .ok (.iload_n 3, 1) := by decide +kernel
theorem dX10_ranked_39 : decode cX10_ranked 39 = .ok (.aload_n 0, 1) := by decide +kernel
theorem dX10_ranked_40 : decode cX10_ranked 40 = .ok (.getfield 19, 3) := by decide +kernel
theorem dX10_ranked_43 : decode cX10_ranked 43 = .ok (.getfield 108, 3) := by decide +kernel
theorem dX10_ranked_46 : decode cX10_ranked 46 = .ok (.if_icmp .ge 20, 3) := by decide +kernel
theorem dX10_ranked_49 : decode cX10_ranked 49 = .ok (.aload_n 0, 1) := by decide +kernel
theorem dX10_ranked_50 : decode cX10_ranked 50 = .ok (.iload_n 3, 1) := by decide +kernel
theorem dX10_ranked_51 : decode cX10_ranked 51 = .ok (.invokevirtual 233, 3) := by decide +kernel
theorem dX10_ranked_54 : decode cX10_ranked 54 = .ok (.iload_n 2, 1) := by decide +kernel
theorem dX10_ranked_55 : decode cX10_ranked 55 = .ok (.if_icmp .ne 5, 3) := by decide +kernel
theorem dX10_ranked_58 : decode cX10_ranked 58 = .ok (.iload_n 3, 1) := by decide +kernel
theorem dX10_ranked_59 : decode cX10_ranked 59 = .ok (.ireturn, 1) := by decide +kernel
theorem dX10_ranked_60 : decode cX10_ranked 60 = .ok (.iinc 3 1, 3) := by decide +kernel
theorem dX10_ranked_63 : decode cX10_ranked 63 = .ok (.goto (-25), 3) := by decide +kernel
theorem dX10_ranked_66 : decode cX10_ranked 66 = .ok (.new 165, 3) := by decide +kernel
theorem dX10_ranked_69 : decode cX10_ranked 69 = .ok (.dup, 1) := by decide +kernel
theorem dX10_ranked_70 : decode cX10_ranked 70 = .ok (.ldc 236, 2) := by decide +kernel
theorem dX10_ranked_72 : decode cX10_ranked 72 = .ok (.invokespecial 169, 3) := by decide +kernel
theorem dX10_ranked_75 : decode cX10_ranked 75 = .ok (.athrow, 1) := by decide +kernel
theorem dX10_firstBeyond_0 : decode cX10_firstBeyond 0 = .ok (.aload_n 0, 1) := by decide +kernel
theorem dX10_firstBeyond_1 : decode cX10_firstBeyond 1 = .ok (.iload_n 1, 1) := by decide +kernel
theorem dX10_firstBeyond_2 : decode cX10_firstBeyond 2 = .ok (.invokevirtual 140, 3) := by decide +kernel
theorem dX10_firstBeyond_5 : decode cX10_firstBeyond 5 = .ok (.iload_n 2, 1) := by decide +kernel
theorem dX10_firstBeyond_6 : decode cX10_firstBeyond 6 = .ok (.iconst 0, 1) := by decide +kernel
theorem dX10_firstBeyond_7 : decode cX10_firstBeyond 7 = .ok (.ldc 238, 2) := by decide +kernel
theorem dX10_firstBeyond_9 : decode cX10_firstBeyond 9 = .ok (.invokestatic 117, 3) := by decide +kernel
theorem dX10_firstBeyond_12 : decode cX10_firstBeyond 12 = .ok (.aload_n 0, 1) := by decide +kernel
theorem dX10_firstBeyond_13 : decode cX10_firstBeyond 13 = .ok (.iload_n 1, 1) := by decide +kernel
theorem dX10_firstBeyond_14 : decode cX10_firstBeyond 14 = .ok (.invokevirtual 210, 3) := by decide +kernel
theorem dX10_firstBeyond_17 : decode cX10_firstBeyond 17 = .ok (.astore_n 3, 1) := by decide +kernel
theorem dX10_firstBeyond_18 : decode cX10_firstBeyond 18 = .ok (.aload_n 0, 1) := by decide +kernel
theorem dX10_firstBeyond_19 : decode cX10_firstBeyond 19 = .ok (.getfield 19, 3) := by decide +kernel
theorem dX10_firstBeyond_22 : decode cX10_firstBeyond 22 = .ok (.getfield 124, 3) := by decide +kernel
theorem dX10_firstBeyond_25 : decode cX10_firstBeyond 25 = .ok (.istore 4, 2) := by decide +kernel
theorem dX10_firstBeyond_27 : decode cX10_firstBeyond 27 = .ok (.iload 4, 2) := by decide +kernel
theorem dX10_firstBeyond_29 : decode cX10_firstBeyond 29 = .ok (.aload_n 0, 1) := by decide +kernel
theorem dX10_firstBeyond_30 : decode cX10_firstBeyond 30 = .ok (.getfield 19, 3) := by decide +kernel
theorem dX10_firstBeyond_33 : decode cX10_firstBeyond 33 = .ok (.getfield 124, 3) := by decide +kernel
theorem dX10_firstBeyond_36 : decode cX10_firstBeyond 36 = .ok (.sipush 1000, 3) := by decide +kernel
theorem dX10_firstBeyond_39 : decode cX10_firstBeyond 39 = .ok (.iadd, 1) := by decide +kernel
theorem dX10_firstBeyond_40 : decode cX10_firstBeyond 40 = .ok (.if_icmp .ge 34, 3) := by decide +kernel
theorem dX10_firstBeyond_43 : decode cX10_firstBeyond 43 = .ok (.aload_n 3, 1) := by decide +kernel
theorem dX10_firstBeyond_44 : decode cX10_firstBeyond 44 = .ok (.aload_n 0, 1) := by decide +kernel
theorem dX10_firstBeyond_45 : decode cX10_firstBeyond 45 = .ok (.getfield 19, 3) := by decide +kernel
theorem dX10_firstBeyond_48 : decode cX10_firstBeyond 48 = .ok (.iload 4, 2) := by decide +kernel
theorem dX10_firstBeyond_50 : decode cX10_firstBeyond 50 = .ok (.invokevirtual 195, 3) := by decide +kernel
theorem dX10_firstBeyond_53 : decode cX10_firstBeyond 53 = .ok (.invokevirtual 214, 3) := by decide +kernel
theorem dX10_firstBeyond_56 : decode cX10_firstBeyond 56 = .ok (.invokestatic 239, 3) := by decide +kernel
theorem dX10_firstBeyond_59 : decode cX10_firstBeyond 59 = .ok (.iload_n 2, 1) := by decide +kernel
theorem dX10_firstBeyond_60 : decode cX10_firstBeyond 60 = .ok (.i2l, 1) := by decide +kernel
theorem dX10_firstBeyond_61 : decode cX10_firstBeyond 61 = .ok (.lcmp, 1) := by decide +kernel
theorem dX10_firstBeyond_62 : decode cX10_firstBeyond 62 = .ok (.ifCond .le 6, 3) := by decide +kernel
theorem dX10_firstBeyond_65 : decode cX10_firstBeyond 65 = .ok (.iload 4, 2) := by decide +kernel
theorem dX10_firstBeyond_67 : decode cX10_firstBeyond 67 = .ok (.ireturn, 1) := by decide +kernel
theorem dX10_firstBeyond_68 : decode cX10_firstBeyond 68 = .ok (.iinc 4 1, 3) := by decide +kernel
theorem dX10_firstBeyond_71 : decode cX10_firstBeyond 71 = .ok (.goto (-44), 3) := by decide +kernel
theorem dX10_firstBeyond_74 : decode cX10_firstBeyond 74 = .ok (.iconst (-1), 1) := by decide +kernel
theorem dX10_firstBeyond_75 : decode cX10_firstBeyond 75 = .ok (.ireturn, 1) := by decide +kernel
theorem dX10_totalError_0 : decode cX10_totalError 0 = .ok (.aload_n 0, 1) := by decide +kernel
theorem dX10_totalError_1 : decode cX10_totalError 1 = .ok (.iload_n 1, 1) := by decide +kernel
theorem dX10_totalError_2 : decode cX10_totalError 2 = .ok (.invokevirtual 192, 3) := by decide +kernel
theorem dX10_totalError_5 : decode cX10_totalError 5 = .ok (.lconst 0, 1) := by decide +kernel
theorem dX10_totalError_6 : decode cX10_totalError 6 = .ok (.lstore_n 2, 1) := by decide +kernel
theorem dX10_totalError_7 : decode cX10_totalError 7 = .ok (.iconst 0, 1) := by decide +kernel
theorem dX10_totalError_8 : decode cX10_totalError 8 = .ok (.istore 4, 2) := by decide +kernel
theorem dX10_totalError_10 : decode cX10_totalError 10 = .ok (.iload 4, 2) := by decide +kernel
theorem dX10_totalError_12 : decode cX10_totalError 12 = .ok (.aload_n 0, 1) := by decide +kernel
theorem dX10_totalError_13 : decode cX10_totalError 13 = .ok (.getfield 19, 3) := by decide +kernel
theorem dX10_totalError_16 : decode cX10_totalError 16 = .ok (.getfield 108, 3) := by decide +kernel
theorem dX10_totalError_19 : decode cX10_totalError 19 = .ok (.if_icmp .ge 19, 3) := by decide +kernel
theorem dX10_totalError_22 : decode cX10_totalError 22 = .ok (.lload_n 2, 1) := by decide +kernel
theorem dX10_totalError_23 : decode cX10_totalError 23 = .ok (.aload_n 0, 1) := by decide +kernel
theorem dX10_totalError_24 : decode cX10_totalError 24 = .ok (.iload 4, 2) := by decide +kernel
theorem dX10_totalError_26 : decode cX10_totalError 26 = .ok (.iload_n 1, 1) := by decide +kernel
theorem dX10_totalError_27 : decode cX10_totalError 27 = .ok (.invokevirtual 230, 3) := by decide +kernel
theorem dX10_totalError_30 : decode cX10_totalError 30 = .ok (.ladd, 1) := by decide +kernel
theorem dX10_totalError_31 : decode cX10_totalError 31 = .ok (.lstore_n 2, 1) := by decide +kernel
theorem dX10_totalError_32 : decode cX10_totalError 32 = .ok (.iinc 4 1, 3) := by decide +kernel
theorem dX10_totalError_35 : decode cX10_totalError 35 = .ok (.goto (-25), 3) := by decide +kernel
theorem dX10_totalError_38 : decode cX10_totalError 38 = .ok (.lload_n 2, 1) := by decide +kernel
theorem dX10_totalError_39 : decode cX10_totalError 39 = .ok (.lreturn, 1) := by decide +kernel
theorem dX10_growth_0 : decode cX10_growth 0 = .ok (.aload_n 0, 1) := by decide +kernel
theorem dX10_growth_1 : decode cX10_growth 1 = .ok (.iload_n 1, 1) := by decide +kernel
theorem dX10_growth_2 : decode cX10_growth 2 = .ok (.invokevirtual 140, 3) := by decide +kernel
theorem dX10_growth_5 : decode cX10_growth 5 = .ok (.aload_n 0, 1) := by decide +kernel
theorem dX10_growth_6 : decode cX10_growth 6 = .ok (.iload_n 2, 1) := by decide +kernel
theorem dX10_growth_7 : decode cX10_growth 7 = .ok (.iload_n 3, 1) := by decide +kernel
theorem dX10_growth_8 : decode cX10_growth 8 = .ok (.invokevirtual 203, 3) := by decide +kernel
theorem dX10_growth_11 : decode cX10_growth 11 = .ok (.iload_n 2, 1) := by decide +kernel
theorem dX10_growth_12 : decode cX10_growth 12 = .ok (.iload_n 3, 1) := by decide +kernel
theorem dX10_growth_13 : decode cX10_growth 13 = .ok (.if_icmp .ne 13, 3) := by decide +kernel
theorem dX10_growth_16 : decode cX10_growth 16 = .ok (.new 245, 3) := by decide +kernel
theorem dX10_growth_19 : decode cX10_growth 19 = .ok (.dup, 1) := by decide +kernel
theorem dX10_growth_20 : decode cX10_growth 20 = .ok (.ldc 247, 2) := by decide +kernel
theorem dX10_growth_22 : decode cX10_growth 22 = .ok (.invokespecial 249, 3) := by decide +kernel
theorem dX10_growth_25 : decode cX10_growth 25 = .ok (.athrow, 1) := by decide +kernel
theorem dX10_growth_26 : decode cX10_growth 26 = .ok (.aload_n 0, 1) := by decide +kernel
theorem dX10_growth_27 : decode cX10_growth 27 = .ok (.iload_n 1, 1) := by decide +kernel
theorem dX10_growth_28 : decode cX10_growth 28 = .ok (.invokevirtual 210, 3) := by decide +kernel
theorem dX10_growth_31 : decode cX10_growth 31 = .ok (.astore 4, 2) := by decide +kernel
theorem dX10_growth_33 : decode cX10_growth 33 = .ok (.lconst 0, 1) := by decide +kernel
theorem dX10_growth_34 : decode cX10_growth 34 = .ok (.lstore 5, 2) := by decide +kernel
theorem dX10_growth_36 : decode cX10_growth 36 = .ok (.aload 4, 2) := by decide +kernel
theorem dX10_growth_38 : decode cX10_growth 38 = .ok (.aload_n 0, 1) := by decide +kernel
theorem dX10_growth_39 : decode cX10_growth 39 = .ok (.getfield 19, 3) := by decide +kernel
theorem dX10_growth_42 : decode cX10_growth 42 = .ok (.iload_n 2, 1) := by decide +kernel
theorem dX10_growth_43 : decode cX10_growth 43 = .ok (.invokevirtual 195, 3) := by decide +kernel
theorem dX10_growth_46 : decode cX10_growth 46 = .ok (.invokevirtual 214, 3) := by decide +kernel
theorem dX10_growth_49 : decode cX10_growth 49 = .ok (.lstore 7, 2) := by decide +kernel
theorem dX10_growth_51 : decode cX10_growth 51 = .ok (.iload_n 2, 1) := by decide +kernel
theorem dX10_growth_52 : decode cX10_growth 52 = .ok (.iconst 1, 1) := by decide +kernel
theorem dX10_growth_53 : decode cX10_growth 53 = .ok (.iadd, 1) := by decide +kernel
theorem dX10_growth_54 : decode cX10_growth 54 = .ok (.istore 9, 2) := by decide +kernel
theorem dX10_growth_56 : decode cX10_growth 56 = .ok (.iload 9, 2) := by decide +kernel
theorem dX10_growth_58 : decode cX10_growth 58 = .ok (.iload_n 3, 1) := by decide +kernel
theorem dX10_growth_59 : decode cX10_growth 59 = .ok (.if_icmp .gt 44, 3) := by decide +kernel
theorem dX10_growth_62 : decode cX10_growth 62 = .ok (.aload 4, 2) := by decide +kernel
theorem dX10_growth_64 : decode cX10_growth 64 = .ok (.aload_n 0, 1) := by decide +kernel
theorem dX10_growth_65 : decode cX10_growth 65 = .ok (.getfield 19, 3) := by decide +kernel
theorem dX10_growth_68 : decode cX10_growth 68 = .ok (.iload 9, 2) := by decide +kernel
theorem dX10_growth_70 : decode cX10_growth 70 = .ok (.invokevirtual 195, 3) := by decide +kernel
theorem dX10_growth_73 : decode cX10_growth 73 = .ok (.invokevirtual 214, 3) := by decide +kernel
theorem dX10_growth_76 : decode cX10_growth 76 = .ok (.lstore 10, 2) := by decide +kernel
theorem dX10_growth_78 : decode cX10_growth 78 = .ok (.lload 5, 2) := by decide +kernel
theorem dX10_growth_80 : decode cX10_growth 80 = .ok (.lload 10, 2) := by decide +kernel
theorem dX10_growth_82 : decode cX10_growth 82 = .ok (.lload 7, 2) := by decide +kernel
theorem dX10_growth_84 : decode cX10_growth 84 = .ok (.lsub, 1) := by decide +kernel
theorem dX10_growth_85 : decode cX10_growth 85 = .ok (.invokestatic 239, 3) := by decide +kernel
theorem dX10_growth_88 : decode cX10_growth 88 = .ok (.invokestatic 250, 3) := by decide +kernel
theorem dX10_growth_91 : decode cX10_growth 91 = .ok (.lstore 5, 2) := by decide +kernel
theorem dX10_growth_93 : decode cX10_growth 93 = .ok (.lload 10, 2) := by decide +kernel
theorem dX10_growth_95 : decode cX10_growth 95 = .ok (.lstore 7, 2) := by decide +kernel
theorem dX10_growth_97 : decode cX10_growth 97 = .ok (.iinc 9 1, 3) := by decide +kernel
theorem dX10_growth_100 : decode cX10_growth 100 = .ok (.goto (-44), 3) := by decide +kernel
theorem dX10_growth_103 : decode cX10_growth 103 = .ok (.lload 5, 2) := by decide +kernel
theorem dX10_growth_105 : decode cX10_growth 105 = .ok (.lreturn, 1) := by decide +kernel
theorem dX10_worstYear_0 : decode cX10_worstYear 0 = .ok (.aload_n 0, 1) := by decide +kernel
theorem dX10_worstYear_1 : decode cX10_worstYear 1 = .ok (.iload_n 1, 1) := by decide +kernel
theorem dX10_worstYear_2 : decode cX10_worstYear 2 = .ok (.invokevirtual 140, 3) := by decide +kernel
theorem dX10_worstYear_5 : decode cX10_worstYear 5 = .ok (.aload_n 0, 1) := by decide +kernel
theorem dX10_worstYear_6 : decode cX10_worstYear 6 = .ok (.iload_n 2, 1) := by decide +kernel
theorem dX10_worstYear_7 : decode cX10_worstYear 7 = .ok (.iload_n 3, 1) := by decide +kernel
theorem dX10_worstYear_8 : decode cX10_worstYear 8 = .ok (.invokevirtual 203, 3) := by decide +kernel
theorem dX10_worstYear_11 : decode cX10_worstYear 11 = .ok (.aload_n 0, 1) := by decide +kernel
theorem dX10_worstYear_12 : decode cX10_worstYear 12 = .ok (.iload_n 1, 1) := by decide +kernel
theorem dX10_worstYear_13 : decode cX10_worstYear 13 = .ok (.invokevirtual 210, 3) := by decide +kernel
theorem dX10_worstYear_16 : decode cX10_worstYear 16 = .ok (.astore 4, 2) := by decide +kernel
theorem dX10_worstYear_18 : decode cX10_worstYear 18 = .ok (.iload_n 2, 1) := by decide +kernel
theorem dX10_worstYear_19 : decode cX10_worstYear 19 = .ok (.istore 5, 2) := by decide +kernel
theorem dX10_worstYear_21 : decode cX10_worstYear 21 = .ok (.ldc2_w 228, 3) := by decide +kernel
theorem dX10_worstYear_24 : decode cX10_worstYear 24 = .ok (.lstore 6, 2) := by decide +kernel
theorem dX10_worstYear_26 : decode cX10_worstYear 26 = .ok (.iload_n 2, 1) := by decide +kernel
theorem dX10_worstYear_27 : decode cX10_worstYear 27 = .ok (.istore 8, 2) := by decide +kernel
theorem dX10_worstYear_29 : decode cX10_worstYear 29 = .ok (.iload 8, 2) := by decide +kernel
theorem dX10_worstYear_31 : decode cX10_worstYear 31 = .ok (.iload_n 3, 1) := by decide +kernel
theorem dX10_worstYear_32 : decode cX10_worstYear 32 = .ok (.if_icmp .gt 44, 3) := by decide +kernel
theorem dX10_worstYear_35 : decode cX10_worstYear 35 = .ok (.aload 4, 2) := by decide +kernel
theorem dX10_worstYear_37 : decode cX10_worstYear 37 = .ok (.aload_n 0, 1) := by decide +kernel
theorem dX10_worstYear_38 : decode cX10_worstYear 38 = .ok (.getfield 19, 3) := by decide +kernel
theorem dX10_worstYear_41 : decode cX10_worstYear 41 = .ok (.iload 8, 2) := by decide +kernel
theorem dX10_worstYear_43 : decode cX10_worstYear 43 = .ok (.invokevirtual 195, 3) := by decide +kernel
theorem dX10_worstYear_46 : decode cX10_worstYear 46 = .ok (.invokevirtual 214, 3) := by decide +kernel
theorem dX10_worstYear_49 : decode cX10_worstYear 49 = .ok (.invokestatic 239, 3) := by decide +kernel
theorem dX10_worstYear_52 : decode cX10_worstYear 52 = .ok (.lstore 9, 2) := by decide +kernel
theorem dX10_worstYear_54 : decode cX10_worstYear 54 = .ok (.lload 9, 2) := by decide +kernel
theorem dX10_worstYear_56 : decode cX10_worstYear 56 = .ok (.lload 6, 2) := by decide +kernel
theorem dX10_worstYear_58 : decode cX10_worstYear 58 = .ok (.lcmp, 1) := by decide +kernel
theorem dX10_worstYear_59 : decode cX10_worstYear 59 = .ok (.ifCond .le 11, 3) := by decide +kernel
theorem dX10_worstYear_62 : decode cX10_worstYear 62 = .ok (.lload 9, 2) := by decide +kernel
theorem dX10_worstYear_64 : decode cX10_worstYear 64 = .ok (.lstore 6, 2) := by decide +kernel
theorem dX10_worstYear_66 : decode cX10_worstYear 66 = .ok (.iload 8, 2) := by decide +kernel
theorem dX10_worstYear_68 : decode cX10_worstYear 68 = .ok (.istore 5, 2) := by decide +kernel
theorem dX10_worstYear_70 : decode cX10_worstYear 70 = .ok (.iinc 8 1, 3) := by decide +kernel
theorem dX10_worstYear_73 : decode cX10_worstYear 73 = .ok (.goto (-44), 3) := by decide +kernel
theorem dX10_worstYear_76 : decode cX10_worstYear 76 = .ok (.iload 5, 2) := by decide +kernel
theorem dX10_worstYear_78 : decode cX10_worstYear 78 = .ok (.ireturn, 1) := by decide +kernel
theorem dX10_goodShare_0 : decode cX10_goodShare 0 = .ok (.aload_n 0, 1) := by decide +kernel
theorem dX10_goodShare_1 : decode cX10_goodShare 1 = .ok (.iload_n 1, 1) := by decide +kernel
theorem dX10_goodShare_2 : decode cX10_goodShare 2 = .ok (.invokevirtual 192, 3) := by decide +kernel
theorem dX10_goodShare_5 : decode cX10_goodShare 5 = .ok (.iload_n 2, 1) := by decide +kernel
theorem dX10_goodShare_6 : decode cX10_goodShare 6 = .ok (.iconst 0, 1) := by decide +kernel
theorem dX10_goodShare_7 : decode cX10_goodShare 7 = .ok (.ldc 238, 2) := by decide +kernel
theorem dX10_goodShare_9 : decode cX10_goodShare 9 = .ok (.invokestatic 117, 3) := by decide +kernel
theorem dX10_goodShare_12 : decode cX10_goodShare 12 = .ok (.aload_n 0, 1) := by decide +kernel
theorem dX10_goodShare_13 : decode cX10_goodShare 13 = .ok (.getfield 19, 3) := by decide +kernel
theorem dX10_goodShare_16 : decode cX10_goodShare 16 = .ok (.getfield 108, 3) := by decide +kernel
theorem dX10_goodShare_19 : decode cX10_goodShare 19 = .ok (.ifCond .ne 5, 3) := by decide +kernel
theorem dX10_goodShare_22 : decode cX10_goodShare 22 = .ok (.fconst 1, 1) := by decide +kernel
theorem dX10_goodShare_23 : decode cX10_goodShare 23 = .ok (.freturn, 1) := by decide +kernel
theorem dX10_goodShare_24 : decode cX10_goodShare 24 = .ok (.iconst 0, 1) := by decide +kernel
theorem dX10_goodShare_25 : decode cX10_goodShare 25 = .ok (.istore_n 3, 1) := by decide +kernel
theorem dX10_goodShare_26 : decode cX10_goodShare 26 = .ok (.iconst 0, 1) := by decide +kernel
theorem dX10_goodShare_27 : decode cX10_goodShare 27 = .ok (.istore 4, 2) := by decide +kernel
theorem dX10_goodShare_29 : decode cX10_goodShare 29 = .ok (.iload 4, 2) := by decide +kernel
theorem dX10_goodShare_31 : decode cX10_goodShare 31 = .ok (.aload_n 0, 1) := by decide +kernel
theorem dX10_goodShare_32 : decode cX10_goodShare 32 = .ok (.getfield 19, 3) := by decide +kernel
theorem dX10_goodShare_35 : decode cX10_goodShare 35 = .ok (.getfield 108, 3) := by decide +kernel
theorem dX10_goodShare_38 : decode cX10_goodShare 38 = .ok (.if_icmp .ge 25, 3) := by decide +kernel
theorem dX10_goodShare_41 : decode cX10_goodShare 41 = .ok (.aload_n 0, 1) := by decide +kernel
theorem dX10_goodShare_42 : decode cX10_goodShare 42 = .ok (.iload 4, 2) := by decide +kernel
theorem dX10_goodShare_44 : decode cX10_goodShare 44 = .ok (.iload_n 1, 1) := by decide +kernel
theorem dX10_goodShare_45 : decode cX10_goodShare 45 = .ok (.invokevirtual 230, 3) := by decide +kernel
theorem dX10_goodShare_48 : decode cX10_goodShare 48 = .ok (.iload_n 2, 1) := by decide +kernel
theorem dX10_goodShare_49 : decode cX10_goodShare 49 = .ok (.i2l, 1) := by decide +kernel
theorem dX10_goodShare_50 : decode cX10_goodShare 50 = .ok (.lcmp, 1) := by decide +kernel
theorem dX10_goodShare_51 : decode cX10_goodShare 51 = .ok (.ifCond .gt 6, 3) := by decide +kernel
theorem dX10_goodShare_54 : decode cX10_goodShare 54 = .ok (.iinc 3 1, 3) := by decide +kernel
theorem dX10_goodShare_57 : decode cX10_goodShare 57 = .ok (.iinc 4 1, 3) := by decide +kernel
theorem dX10_goodShare_60 : decode cX10_goodShare 60 = .ok (.goto (-31), 3) := by decide +kernel
theorem dX10_goodShare_63 : decode cX10_goodShare 63 = .ok (.iload_n 3, 1) := by decide +kernel
theorem dX10_goodShare_64 : decode cX10_goodShare 64 = .ok (.i2f, 1) := by decide +kernel
theorem dX10_goodShare_65 : decode cX10_goodShare 65 = .ok (.aload_n 0, 1) := by decide +kernel
theorem dX10_goodShare_66 : decode cX10_goodShare 66 = .ok (.getfield 19, 3) := by decide +kernel
theorem dX10_goodShare_69 : decode cX10_goodShare 69 = .ok (.getfield 108, 3) := by decide +kernel
theorem dX10_goodShare_72 : decode cX10_goodShare 72 = .ok (.i2f, 1) := by decide +kernel
theorem dX10_goodShare_73 : decode cX10_goodShare 73 = .ok (.fdiv, 1) := by decide +kernel
theorem dX10_goodShare_74 : decode cX10_goodShare 74 = .ok (.freturn, 1) := by decide +kernel
theorem dX10_accuracy_0 : decode cX10_accuracy 0 = .ok (.aload_n 0, 1) := by decide +kernel
theorem dX10_accuracy_1 : decode cX10_accuracy 1 = .ok (.iload_n 1, 1) := by decide +kernel
theorem dX10_accuracy_2 : decode cX10_accuracy 2 = .ok (.invokevirtual 140, 3) := by decide +kernel
theorem dX10_accuracy_5 : decode cX10_accuracy 5 = .ok (.aload_n 0, 1) := by decide +kernel
theorem dX10_accuracy_6 : decode cX10_accuracy 6 = .ok (.iload_n 1, 1) := by decide +kernel
theorem dX10_accuracy_7 : decode cX10_accuracy 7 = .ok (.aload_n 0, 1) := by decide +kernel
theorem dX10_accuracy_8 : decode cX10_accuracy 8 = .ok (.getfield 54, 3) := by decide +kernel
theorem dX10_accuracy_11 : decode cX10_accuracy 11 = .ok (.invokevirtual 181, 3) := by decide +kernel
theorem dX10_accuracy_14 : decode cX10_accuracy 14 = .ok (.astore_n 2, 1) := by decide +kernel
theorem dX10_accuracy_15 : decode cX10_accuracy 15 = .ok (.aload_n 0, 1) := by decide +kernel
theorem dX10_accuracy_16 : decode cX10_accuracy 16 = .ok (.iload_n 1, 1) := by decide +kernel
theorem dX10_accuracy_17 : decode cX10_accuracy 17 = .ok (.aload_n 0, 1) := by decide +kernel
theorem dX10_accuracy_18 : decode cX10_accuracy 18 = .ok (.getfield 58, 3) := by decide +kernel
theorem dX10_accuracy_21 : decode cX10_accuracy 21 = .ok (.invokevirtual 225, 3) := by decide +kernel
theorem dX10_accuracy_24 : decode cX10_accuracy 24 = .ok (.astore_n 3, 1) := by decide +kernel
theorem dX10_accuracy_25 : decode cX10_accuracy 25 = .ok (.aload_n 2, 1) := by decide +kernel
theorem dX10_accuracy_26 : decode cX10_accuracy 26 = .ok (.getfield 185, 3) := by decide +kernel
theorem dX10_accuracy_29 : decode cX10_accuracy 29 = .ok (.l2d, 1) := by decide +kernel
theorem dX10_accuracy_30 : decode cX10_accuracy 30 = .ok (.aload_n 2, 1) := by decide +kernel
theorem dX10_accuracy_31 : decode cX10_accuracy 31 = .ok (.getfield 189, 3) := by decide +kernel
theorem dX10_accuracy_34 : decode cX10_accuracy 34 = .ok (.l2d, 1) := by decide +kernel
theorem dX10_accuracy_35 : decode cX10_accuracy 35 = .ok (.ddiv, 1) := by decide +kernel
theorem dX10_accuracy_36 : decode cX10_accuracy 36 = .ok (.aload_n 3, 1) := by decide +kernel
theorem dX10_accuracy_37 : decode cX10_accuracy 37 = .ok (.getfield 185, 3) := by decide +kernel
theorem dX10_accuracy_40 : decode cX10_accuracy 40 = .ok (.l2d, 1) := by decide +kernel
theorem dX10_accuracy_41 : decode cX10_accuracy 41 = .ok (.aload_n 3, 1) := by decide +kernel
theorem dX10_accuracy_42 : decode cX10_accuracy 42 = .ok (.getfield 189, 3) := by decide +kernel
theorem dX10_accuracy_45 : decode cX10_accuracy 45 = .ok (.l2d, 1) := by decide +kernel
theorem dX10_accuracy_46 : decode cX10_accuracy 46 = .ok (.ddiv, 1) := by decide +kernel
theorem dX10_accuracy_47 : decode cX10_accuracy 47 = .ok (.ddiv, 1) := by decide +kernel
theorem dX10_accuracy_48 : decode cX10_accuracy 48 = .ok (.dreturn, 1) := by decide +kernel
theorem dX10_revolutions_0 : decode cX10_revolutions 0 = .ok (.aload_n 0, 1) := by decide +kernel
theorem dX10_revolutions_1 : decode cX10_revolutions 1 = .ok (.iload_n 1, 1) := by decide +kernel
theorem dX10_revolutions_2 : decode cX10_revolutions 2 = .ok (.invokevirtual 140, 3) := by decide +kernel
theorem dX10_revolutions_5 : decode cX10_revolutions 5 = .ok (.aload_n 0, 1) := by decide +kernel
theorem dX10_revolutions_6 : decode cX10_revolutions 6 = .ok (.iload_n 2, 1) := by decide +kernel
theorem dX10_revolutions_7 : decode cX10_revolutions 7 = .ok (.invokevirtual 192, 3) := by decide +kernel
theorem dX10_revolutions_10 : decode cX10_revolutions 10 = .ok (.aload_n 0, 1) := by decide +kernel
theorem dX10_revolutions_11 : decode cX10_revolutions 11 = .ok (.iload_n 1, 1) := by decide +kernel
theorem dX10_revolutions_12 : decode cX10_revolutions 12 = .ok (.aload_n 0, 1) := by decide +kernel
theorem dX10_revolutions_13 : decode cX10_revolutions 13 = .ok (.getfield 54, 3) := by decide +kernel
theorem dX10_revolutions_16 : decode cX10_revolutions 16 = .ok (.invokevirtual 181, 3) := by decide +kernel
theorem dX10_revolutions_19 : decode cX10_revolutions 19 = .ok (.aload_n 0, 1) := by decide +kernel
theorem dX10_revolutions_20 : decode cX10_revolutions 20 = .ok (.getfield 19, 3) := by decide +kernel
theorem dX10_revolutions_23 : decode cX10_revolutions 23 = .ok (.iload_n 2, 1) := by decide +kernel
theorem dX10_revolutions_24 : decode cX10_revolutions 24 = .ok (.invokevirtual 195, 3) := by decide +kernel
theorem dX10_revolutions_27 : decode cX10_revolutions 27 = .ok (.invokevirtual 254, 3) := by decide +kernel
theorem dX10_revolutions_30 : decode cX10_revolutions 30 = .ok (.lreturn, 1) := by decide +kernel
theorem dX10_bestPair_0 : decode cX10_bestPair 0 = .ok (.aload_n 0, 1) := by decide +kernel
theorem dX10_bestPair_1 : decode cX10_bestPair 1 = .ok (.iload_n 1, 1) := by decide +kernel
theorem dX10_bestPair_2 : decode cX10_bestPair 2 = .ok (.invokevirtual 140, 3) := by decide +kernel
theorem dX10_bestPair_5 : decode cX10_bestPair 5 = .ok (.iload_n 2, 1) := by decide +kernel
theorem dX10_bestPair_6 : decode cX10_bestPair 6 = .ok (.iconst 0, 1) := by decide +kernel
theorem dX10_bestPair_7 : decode cX10_bestPair 7 = .ok (.iconst 1, 1) := by decide +kernel
theorem dX10_bestPair_8 : decode cX10_bestPair 8 = .ok (.invokestatic 117, 3) := by decide +kernel
theorem dX10_bestPair_11 : decode cX10_bestPair 11 = .ok (.aload_n 0, 1) := by decide +kernel
theorem dX10_bestPair_12 : decode cX10_bestPair 12 = .ok (.getfield 26, 3) := by decide +kernel
theorem dX10_bestPair_15 : decode cX10_bestPair 15 = .ok (.getfield 121, 3) := by decide +kernel
theorem dX10_bestPair_18 : decode cX10_bestPair 18 = .ok (.iconst 2, 1) := by decide +kernel
theorem dX10_bestPair_19 : decode cX10_bestPair 19 = .ok (.if_icmp .ge 5, 3) := by decide +kernel
theorem dX10_bestPair_22 : decode cX10_bestPair 22 = .ok (.iconst (-1), 1) := by decide +kernel
theorem dX10_bestPair_23 : decode cX10_bestPair 23 = .ok (.ireturn, 1) := by decide +kernel
theorem dX10_bestPair_24 : decode cX10_bestPair 24 = .ok (.aload_n 0, 1) := by decide +kernel
theorem dX10_bestPair_25 : decode cX10_bestPair 25 = .ok (.getfield 47, 3) := by decide +kernel
theorem dX10_bestPair_28 : decode cX10_bestPair 28 = .ok (.aload_n 0, 1) := by decide +kernel
theorem dX10_bestPair_29 : decode cX10_bestPair 29 = .ok (.getfield 26, 3) := by decide +kernel
theorem dX10_bestPair_32 : decode cX10_bestPair 32 = .ok (.aload_n 0, 1) := by decide +kernel
theorem dX10_bestPair_33 : decode cX10_bestPair 33 = .ok (.iload_n 1, 1) := by decide +kernel
theorem dX10_bestPair_34 : decode cX10_bestPair 34 = .ok (.aload_n 0, 1) := by decide +kernel
theorem dX10_bestPair_35 : decode cX10_bestPair 35 = .ok (.getfield 54, 3) := by decide +kernel
theorem dX10_bestPair_38 : decode cX10_bestPair 38 = .ok (.invokevirtual 257, 3) := by decide +kernel
theorem dX10_bestPair_41 : decode cX10_bestPair 41 = .ok (.invokevirtual 260, 3) := by decide +kernel
theorem dX10_bestPair_44 : decode cX10_bestPair 44 = .ok (.aload_n 0, 1) := by decide +kernel
theorem dX10_bestPair_45 : decode cX10_bestPair 45 = .ok (.getfield 47, 3) := by decide +kernel
theorem dX10_bestPair_48 : decode cX10_bestPair 48 = .ok (.getfield 264, 3) := by decide +kernel
theorem dX10_bestPair_51 : decode cX10_bestPair 51 = .ok (.iload_n 2, 1) := by decide +kernel
theorem dX10_bestPair_52 : decode cX10_bestPair 52 = .ok (.iaload, 1) := by decide +kernel
theorem dX10_bestPair_53 : decode cX10_bestPair 53 = .ok (.ireturn, 1) := by decide +kernel
theorem dX10_bestTrain_0 : decode cX10_bestTrain 0 = .ok (.aload_n 0, 1) := by decide +kernel
theorem dX10_bestTrain_1 : decode cX10_bestTrain 1 = .ok (.iload_n 1, 1) := by decide +kernel
theorem dX10_bestTrain_2 : decode cX10_bestTrain 2 = .ok (.invokevirtual 140, 3) := by decide +kernel
theorem dX10_bestTrain_5 : decode cX10_bestTrain 5 = .ok (.iload_n 2, 1) := by decide +kernel
theorem dX10_bestTrain_6 : decode cX10_bestTrain 6 = .ok (.iconst 0, 1) := by decide +kernel
theorem dX10_bestTrain_7 : decode cX10_bestTrain 7 = .ok (.iconst 3, 1) := by decide +kernel
theorem dX10_bestTrain_8 : decode cX10_bestTrain 8 = .ok (.invokestatic 117, 3) := by decide +kernel
theorem dX10_bestTrain_11 : decode cX10_bestTrain 11 = .ok (.aload_n 0, 1) := by decide +kernel
theorem dX10_bestTrain_12 : decode cX10_bestTrain 12 = .ok (.getfield 26, 3) := by decide +kernel
theorem dX10_bestTrain_15 : decode cX10_bestTrain 15 = .ok (.getfield 121, 3) := by decide +kernel
theorem dX10_bestTrain_18 : decode cX10_bestTrain 18 = .ok (.iconst 2, 1) := by decide +kernel
theorem dX10_bestTrain_19 : decode cX10_bestTrain 19 = .ok (.if_icmp .ge 5, 3) := by decide +kernel
theorem dX10_bestTrain_22 : decode cX10_bestTrain 22 = .ok (.iconst (-1), 1) := by decide +kernel
theorem dX10_bestTrain_23 : decode cX10_bestTrain 23 = .ok (.ireturn, 1) := by decide +kernel
theorem dX10_bestTrain_24 : decode cX10_bestTrain 24 = .ok (.aload_n 0, 1) := by decide +kernel
theorem dX10_bestTrain_25 : decode cX10_bestTrain 25 = .ok (.getfield 47, 3) := by decide +kernel
theorem dX10_bestTrain_28 : decode cX10_bestTrain 28 = .ok (.aload_n 0, 1) := by decide +kernel
theorem dX10_bestTrain_29 : decode cX10_bestTrain 29 = .ok (.getfield 26, 3) := by decide +kernel
theorem dX10_bestTrain_32 : decode cX10_bestTrain 32 = .ok (.aload_n 0, 1) := by decide +kernel
theorem dX10_bestTrain_33 : decode cX10_bestTrain 33 = .ok (.iload_n 1, 1) := by decide +kernel
theorem dX10_bestTrain_34 : decode cX10_bestTrain 34 = .ok (.aload_n 0, 1) := by decide +kernel
theorem dX10_bestTrain_35 : decode cX10_bestTrain 35 = .ok (.getfield 54, 3) := by decide +kernel
theorem dX10_bestTrain_38 : decode cX10_bestTrain 38 = .ok (.invokevirtual 257, 3) := by decide +kernel
theorem dX10_bestTrain_41 : decode cX10_bestTrain 41 = .ok (.invokevirtual 267, 3) := by decide +kernel
theorem dX10_bestTrain_44 : decode cX10_bestTrain 44 = .ok (.aload_n 0, 1) := by decide +kernel
theorem dX10_bestTrain_45 : decode cX10_bestTrain 45 = .ok (.getfield 47, 3) := by decide +kernel
theorem dX10_bestTrain_48 : decode cX10_bestTrain 48 = .ok (.getfield 264, 3) := by decide +kernel
theorem dX10_bestTrain_51 : decode cX10_bestTrain 51 = .ok (.iload_n 2, 1) := by decide +kernel
theorem dX10_bestTrain_52 : decode cX10_bestTrain 52 = .ok (.iaload, 1) := by decide +kernel
theorem dX10_bestTrain_53 : decode cX10_bestTrain 53 = .ok (.ireturn, 1) := by decide +kernel
theorem dX10_convergent_0 : decode cX10_convergent 0 = .ok (.aload_n 0, 1) := by decide +kernel
theorem dX10_convergent_1 : decode cX10_convergent 1 = .ok (.iload_n 1, 1) := by decide +kernel
theorem dX10_convergent_2 : decode cX10_convergent 2 = .ok (.invokevirtual 140, 3) := by decide +kernel
theorem dX10_convergent_5 : decode cX10_convergent 5 = .ok (.iload_n 2, 1) := by decide +kernel
theorem dX10_convergent_6 : decode cX10_convergent 6 = .ok (.ifCond .ge 14, 3) := by decide +kernel
theorem dX10_convergent_9 : decode cX10_convergent 9 = .ok (.new 245, 3) := by decide +kernel
theorem dX10_convergent_12 : decode cX10_convergent 12 = .ok (.dup, 1) := by decide +kernel
theorem dX10_convergent_13 : decode cX10_convergent 13 = .ok (.ldc_w 270, 3) := by decide +kernel
theorem dX10_convergent_16 : decode cX10_convergent 16 = .ok (.invokespecial 249, 3) := by decide +kernel
theorem dX10_convergent_19 : decode cX10_convergent 19 = .ok (.athrow, 1) := by decide +kernel
theorem dX10_convergent_20 : decode cX10_convergent 20 = .ok (.iload_n 3, 1) := by decide +kernel
theorem dX10_convergent_21 : decode cX10_convergent 21 = .ok (.iconst 0, 1) := by decide +kernel
theorem dX10_convergent_22 : decode cX10_convergent 22 = .ok (.iconst 1, 1) := by decide +kernel
theorem dX10_convergent_23 : decode cX10_convergent 23 = .ok (.invokestatic 117, 3) := by decide +kernel
theorem dX10_convergent_26 : decode cX10_convergent 26 = .ok (.ldc2_w 272, 3) := by decide +kernel
theorem dX10_convergent_29 : decode cX10_convergent 29 = .ok (.lstore 4, 2) := by decide +kernel
theorem dX10_convergent_31 : decode cX10_convergent 31 = .ok (.aload_n 0, 1) := by decide +kernel
theorem dX10_convergent_32 : decode cX10_convergent 32 = .ok (.getfield 19, 3) := by decide +kernel
theorem dX10_convergent_35 : decode cX10_convergent 35 = .ok (.getfield 143, 3) := by decide +kernel
theorem dX10_convergent_38 : decode cX10_convergent 38 = .ok (.iload_n 1, 1) := by decide +kernel
theorem dX10_convergent_39 : decode cX10_convergent 39 = .ok (.iaload, 1) := by decide +kernel
theorem dX10_convergent_40 : decode cX10_convergent 40 = .ok (.i2l, 1) := by decide +kernel
theorem dX10_convergent_41 : decode cX10_convergent 41 = .ok (.lstore 6, 2) := by decide +kernel
theorem dX10_convergent_43 : decode cX10_convergent 43 = .ok (.lconst 0, 1) := by decide +kernel
theorem dX10_convergent_44 : decode cX10_convergent 44 = .ok (.lstore 8, 2) := by decide +kernel
theorem dX10_convergent_46 : decode cX10_convergent 46 = .ok (.lconst 1, 1) := by decide +kernel
theorem dX10_convergent_47 : decode cX10_convergent 47 = .ok (.lstore 10, 2) := by decide +kernel
theorem dX10_convergent_49 : decode cX10_convergent 49 = .ok (.lconst 1, 1) := by decide +kernel
theorem dX10_convergent_50 : decode cX10_convergent 50 = .ok (.lstore 12, 2) := by decide +kernel
theorem dX10_convergent_52 : decode cX10_convergent 52 = .ok (.lconst 0, 1) := by decide +kernel
theorem dX10_convergent_53 : decode cX10_convergent 53 = .ok (.lstore 14, 2) := by decide +kernel
theorem dX10_convergent_55 : decode cX10_convergent 55 = .ok (.iconst 0, 1) := by decide +kernel
theorem dX10_convergent_56 : decode cX10_convergent 56 = .ok (.istore 16, 2) := by decide +kernel
theorem dX10_convergent_58 : decode cX10_convergent 58 = .ok (.iload 16, 2) := by decide +kernel
theorem dX10_convergent_60 : decode cX10_convergent 60 = .ok (.sipush 200, 3) := by decide +kernel
